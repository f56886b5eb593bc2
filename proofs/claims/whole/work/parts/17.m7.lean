/-! the reference: words, nodes of one word -/
set_option maxRecDepth 20000 in
theorem l_X8_wordOf {G : nk_EG} {ad : Nat → Nat} {A : Nat → Nat → Int32} {I : Nat → Int32} (hi : mInj ad) {m b : Nat} (hm : mSh (A 0) 0 m b) {j : Nat} {l i : Int32} (hj : j < 4) : ∀ (n : Nat) (k : Nat) (h1 : k ≤ nk_wm b) (h2 : nk_wm b < k + n), nk_J G mX8_wordOf 4 (nk_ri (sp_uw (fun w => A 0 (0 + 6 + 32 * j + w)) (nk_wm b)) (mh ad A I)) 0 0 25 [some (.ref (ad 0)), some (.int (nI j)), some (.int l), some (.int i), some (.int (sp_uw (fun w => A 0 (0 + 6 + 32 * j + w)) k)), some (.int (nI k))] [] (mh ad A I) := by
  intro n
  induction n with
  | zero => intro k h1 h2; omega
  | succ n ih =>
    intro k h1 h2
    have h4 := hm.2.2.1
    have h10 := hm.2.2.2
    have ht := nk_tp_le h10
    have hw := nk_wm_le h10
    refine nk_iload dX8_wordOf_25 rfl ?_
    refine nk_aload_n (i := 0) dX8_wordOf_27 rfl rfl ?_
    refine nk_cVi kX8_262 (s_X8_wordMany hi hm) dX8_wordOf_28 mh_0 rfl rfl (by decide) (Nat.le_of_ble_eq_true rfl) ?_
    refine nk_icmpge (tgt := 71) dX8_wordOf_31 (by decide) (fun h31 => ?_) (fun h31 => ?_)
    · skip
      refine nk_iload dX8_wordOf_71 rfl ?_
      refine nk_ireturn dX8_wordOf_73 rfl ?_
      have e2 : k = nk_wm b := Nat.le_antisymm h1 (nk_leI h31 (by omega) (by omega))
      subst e2
      exact ⟨rfl, rfl⟩
    · skip
      have hk := nk_nleI (a := nk_wm b) h31 (by omega) (by omega)
      refine nk_iload dX8_wordOf_34 rfl ?_
      refine nk_aload_n (i := 0) dX8_wordOf_36 rfl rfl ?_
      refine nk_getf fX8_7 dX8_wordOf_37 mh_0 rfl ?_
      refine nk_bipush (v := 6) dX8_wordOf_40 (by decide) ?_
      refine nk_bipush (v := 32) dX8_wordOf_42 (by decide) ?_
      refine nk_iload_n (i := 1) dX8_wordOf_44 rfl rfl ?_
      refine nk_imul dX8_wordOf_45 ?_
      refine nk_iadd dX8_wordOf_46 ?_
      refine nk_iload dX8_wordOf_47 rfl ?_
      refine nk_iadd dX8_wordOf_49 ?_
      refine nk_ialdN (j := 0 + 6 + 32 * j + k) dX8_wordOf_50 (mh_1 hi) (nk_ixw0 j k) (by omega) (by decide) ?_
      refine nk_ifne (tgt := 58) dX8_wordOf_51 (by decide) (fun h51 => ?_) (fun h51 => ?_)
      · skip
        refine nk_iconst (v := 1) dX8_wordOf_58 (by decide) ?_
        refine nk_iload dX8_wordOf_59 rfl ?_
        refine nk_ishl dX8_wordOf_61 ?_
        refine nk_ior dX8_wordOf_62 ?_
        refine nk_istoreT dX8_wordOf_63 (by decide) ?_
        refine nk_iincT dX8_wordOf_65 rfl (nk_i1 k) (by decide) ?_
        refine nk_goto (tgt := 25) dX8_wordOf_68 (by decide) ?_
        refine (ih (k + 1) (by omega) (by omega)).to ?_ rfl rfl
        first
        | (rw [sp_uw, if_pos h51]; rfl)
        | (rw [sp_uw, if_neg h51]; rfl)
      · skip
        refine nk_iconst (v := 0) dX8_wordOf_54 (by decide) ?_
        refine nk_goto (tgt := 62) dX8_wordOf_55 (by decide) ?_
        refine nk_ior dX8_wordOf_62 ?_
        refine nk_istoreT dX8_wordOf_63 (by decide) ?_
        refine nk_iincT dX8_wordOf_65 rfl (nk_i1 k) (by decide) ?_
        refine nk_goto (tgt := 25) dX8_wordOf_68 (by decide) ?_
        refine (ih (k + 1) (by omega) (by omega)).to ?_ rfl rfl
        first
        | (rw [sp_uw, if_pos h51]; rfl)
        | (rw [sp_uw, if_neg h51]; rfl)
set_option maxRecDepth 20000 in
theorem s_X8_wordOf {G : nk_EG} {ad : Nat → Nat} {A : Nat → Nat → Int32} {I : Nat → Int32} (hi : mInj ad) {m b : Nat} (hm : mSh (A 0) 0 m b) {s l i : Int32} (hw : sp_isW m b s l i) : nk_Si G mX8_wordOf 4 [.ref (ad 0), .int s, .int l, .int i] (mh ad A I) (sp_w b (fun s w => A 0 (0 + 6 + 32 * s + w)) s l i) (mh ad A I) := by
  have h4 := hm.2.2.1
  have h10 := hm.2.2.2
  have ht := nk_tp_le h10
  have hw2 := nk_wm_le h10
  obtain ⟨j, hj, rfl⟩ := nk_getN hw.1
  refine nk_S.of (by decide +kernel) (Nat.le_of_ble_eq_true rfl) rfl ?_
  refine nk_iload_n (i := 2) dX8_wordOf_0 rfl rfl ?_
  refine nk_ifne (tgt := 19) dX8_wordOf_1 (by decide) (fun h1 => ?_) (fun h1 => ?_)
  · skip
    refine nk_iconst (v := 0) dX8_wordOf_19 (by decide) ?_
    refine nk_istoreT dX8_wordOf_20 (by decide) ?_
    refine nk_iconst (v := 0) dX8_wordOf_22 (by decide) ?_
    refine nk_istoreT dX8_wordOf_23 (by decide) ?_
    unfold sp_w
    rw [if_neg h1, sp_n_nI (by omega)]
    exact l_X8_wordOf hi hm (by omega) (nk_wm b + 1) 0 (by omega) (by omega)
  · skip
    have hi2 : 0 ≤ i.toInt ∧ i.toInt < nk_wm b := hw.2.elim (fun y => y.2) (fun y => absurd (y.1.symm.trans h1) (by decide))
    obtain ⟨i, hi3, rfl⟩ := nk_getN hi2
    unfold sp_w
    rw [if_pos h1, sp_n_nI (by omega), sp_n_nI (by omega)]
    refine nk_aload_n (i := 0) dX8_wordOf_4 rfl rfl ?_
    refine nk_getf fX8_7 dX8_wordOf_5 mh_0 rfl ?_
    refine nk_bipush (v := 6) dX8_wordOf_8 (by decide) ?_
    refine nk_bipush (v := 32) dX8_wordOf_10 (by decide) ?_
    refine nk_iload_n (i := 1) dX8_wordOf_12 rfl rfl ?_
    refine nk_imul dX8_wordOf_13 ?_
    refine nk_iadd dX8_wordOf_14 ?_
    refine nk_iload_n (i := 3) dX8_wordOf_15 rfl rfl ?_
    refine nk_iadd dX8_wordOf_16 ?_
    refine nk_ialdN (j := 0 + 6 + 32 * j + i) dX8_wordOf_17 (mh_1 hi) (nk_ixw0 j i) (by omega) (by decide) ?_
    refine nk_ireturn dX8_wordOf_18 rfl ?_
    exact ⟨rfl, rfl⟩
set_option maxRecDepth 20000 in
theorem s_X8_word {G : nk_EG} {ad : Nat → Nat} {A : Nat → Nat → Int32} {I : Nat → Int32} (hi : mInj ad) {m b : Nat} (hm : mSh (A 0) 0 m b) {s l i : Int32} : nk_Si G mX8_word 5 [.ref (ad 0), .int s, .int l, .int i] (mh ad A I) (sp_word m b (fun s w => A 0 (0 + 6 + 32 * s + w)) s l i) (mh ad A I) := by
  refine nk_S.of (by decide +kernel) (Nat.le_of_ble_eq_true rfl) rfl ?_
  refine nk_aload_n (i := 0) dX8_word_0 rfl rfl ?_
  refine nk_iload_n (i := 1) dX8_word_1 rfl rfl ?_
  refine nk_iload_n (i := 2) dX8_word_2 rfl rfl ?_
  refine nk_iload_n (i := 3) dX8_word_3 rfl rfl ?_
  refine nk_cVi kX8_265 (s_X8_isWord hi hm) dX8_word_4 mh_0 rfl rfl (by decide) (Nat.le_of_ble_eq_true rfl) ?_
  refine nk_ifeq (tgt := 20) dX8_word_7 (by decide) (fun h7 => ?_) (fun h7 => ?_)
  · skip
    try simp only [nk_b0, Int32.toInt_toInt64, Classical.not_not, nk_l0, nk_l1, nk_l2, nk_l60] at h7
    refine nk_ldc qX8_49 dX8_word_20 ?_
    refine nk_ireturn dX8_word_22 rfl ?_
    first
    | exact ⟨by unfold sp_word; rw [if_neg h7], rfl⟩
    | exact ⟨by unfold sp_word; rw [if_pos h7], rfl⟩
  · skip
    try simp only [nk_b0, Int32.toInt_toInt64, Classical.not_not, nk_l0, nk_l1, nk_l2, nk_l60] at h7
    refine nk_aload_n (i := 0) dX8_word_10 rfl rfl ?_
    refine nk_iload_n (i := 1) dX8_word_11 rfl rfl ?_
    refine nk_iload_n (i := 2) dX8_word_12 rfl rfl ?_
    refine nk_iload_n (i := 3) dX8_word_13 rfl rfl ?_
    refine nk_cVi kX8_268 (s_X8_wordOf hi hm h7) dX8_word_14 mh_0 rfl rfl (by decide) (Nat.le_of_ble_eq_true rfl) ?_
    refine nk_goto (tgt := 22) dX8_word_17 (by decide) ?_
    refine nk_ireturn dX8_word_22 rfl ?_
    first
    | exact ⟨by unfold sp_word; rw [if_neg h7], rfl⟩
    | exact ⟨by unfold sp_word; rw [if_pos h7], rfl⟩
set_option maxRecDepth 20000 in
theorem l_X8_leastBit {G : nk_EG} {x : Int32} {H : nk_AH} : ∀ (n : Nat) (k : Nat) (h1 : k ≤ 32) (h2 : 32 < k + n) (h3 : ∀ j, 0 ≤ j → j < k → bt x j = false), nk_J G mX8_leastBit 2 (nk_ri (sp_lo x) H) 0 0 2 [some (.int x), some (.int (nI k))] [] H := by
  intro n
  induction n with
  | zero => intro k h1 h2 h3; omega
  | succ n ih =>
    intro k h1 h2 h3
    refine nk_iload_n (i := 1) dX8_leastBit_2 rfl rfl ?_
    refine nk_bipush (v := 32) dX8_leastBit_3 (by decide) ?_
    refine nk_icmpge (tgt := 24) dX8_leastBit_5 (by decide) (fun h5 => ?_) (fun h5 => ?_)
    · skip
      refine nk_ldc qX8_140 dX8_leastBit_24 ?_
      refine nk_ireturn dX8_leastBit_26 rfl ?_
      have hk := nk_leI (a := 32) h5 (by omega) (by omega)
      exact ⟨by unfold sp_lo; rw [nk_up_no (fun j j1 j2 => h3 j j1 (by omega))]; rfl, rfl⟩
    · skip
      have hk := nk_nleI (a := 32) h5 (by omega) (by omega)
      refine nk_iload_n (i := 0) dX8_leastBit_8 rfl rfl ?_
      refine nk_iload_n (i := 1) dX8_leastBit_9 rfl rfl ?_
      refine nk_cSi kX8_131 (s_X8_has) dX8_leastBit_10 rfl rfl (by decide) (Nat.le_of_ble_eq_true rfl) ?_
      refine nk_ifeq (tgt := 18) dX8_leastBit_13 (by decide) (fun h13 => ?_) (fun h13 => ?_)
      · skip
        rw [nk_b0, pf_bit_iff _ hk] at h13
        refine nk_iincT dX8_leastBit_18 rfl (nk_i1 k) (by decide) ?_
        refine nk_goto (tgt := 2) dX8_leastBit_21 (by decide) ?_
        exact ih (k + 1) (by omega) (by omega) (fun j j1 j2 => by
          rcases Nat.eq_or_lt_of_le (Nat.le_of_lt_succ j2) with e | e
          · subst e; simpa using h13
          · exact h3 j j1 e)
      · skip
        rw [nk_b0, pf_bit_iff _ hk] at h13
        refine nk_iload_n (i := 1) dX8_leastBit_16 rfl rfl ?_
        refine nk_ireturn dX8_leastBit_17 rfl ?_
        exact ⟨by unfold sp_lo; rw [nk_up_eq (k := k) (Nat.zero_le _) (by omega) (by simpa using h13) h3]; rfl, rfl⟩
set_option maxRecDepth 20000 in
theorem s_X8_leastBit {G : nk_EG} {x : Int32} {H : nk_AH} : nk_Si G mX8_leastBit 2 [.int x] H (sp_lo x) H := by
  refine nk_S.of (by decide +kernel) (Nat.le_of_ble_eq_true rfl) rfl ?_
  refine nk_iconst (v := 0) dX8_leastBit_0 (by decide) ?_
  refine nk_istore_nT (i := 1) dX8_leastBit_1 rfl (by decide) ?_
  exact l_X8_leastBit 33 0 (by omega) (by omega) (fun j j1 j2 => by omega)
set_option maxRecDepth 20000 in
theorem l_X8_greatestBit {G : nk_EG} {x : Int32} {H : nk_AH} : ∀ (n : Nat) (k : Nat) (h1 : k ≤ 32) (h2 : k < n) (h3 : ∀ j, k ≤ j → j < 32 → bt x j = false), nk_J G mX8_greatestBit 2 (nk_ri (sp_hi x) H) 0 0 3 [some (.int x), some (.int (nI k - 1))] [] H := by
  intro n
  induction n with
  | zero => intro k h1 h2 h3; omega
  | succ n ih =>
    intro k h1 h2 h3
    refine nk_iload_n (i := 1) dX8_greatestBit_3 rfl rfl ?_
    refine nk_iflt (tgt := 23) dX8_greatestBit_4 (by decide) (fun h4 => ?_) (fun h4 => ?_)
    · skip
      refine nk_ldc qX8_140 dX8_greatestBit_23 ?_
      refine nk_ireturn dX8_greatestBit_25 rfl ?_
      have hk0 := nk_pm0 (by omega) h4
      exact ⟨by unfold sp_hi; rw [nk_dn_no (fun j j2 => h3 j (by omega) j2)]; rfl, rfl⟩
    · skip
      have hk := nk_pm h4
      refine nk_iload_n (i := 0) dX8_greatestBit_7 rfl rfl ?_
      refine nk_iload_n (i := 1) dX8_greatestBit_8 rfl rfl ?_
      refine nk_top (y := nI (k - 1)) (nk_pm1 hk) ?_
      refine nk_cSi kX8_131 (s_X8_has) dX8_greatestBit_9 rfl rfl (by decide) (Nat.le_of_ble_eq_true rfl) ?_
      refine nk_ifeq (tgt := 17) dX8_greatestBit_12 (by decide) (fun h12 => ?_) (fun h12 => ?_)
      · skip
        rw [nk_b0, pf_bit_iff _ (by omega)] at h12
        refine nk_iincT dX8_greatestBit_17 rfl (nk_dec1 hk) (by decide) ?_
        refine nk_goto (tgt := 3) dX8_greatestBit_20 (by decide) ?_
        exact ih (k - 1) (by omega) (by omega) (fun j j1 j2 => by
          rcases Nat.eq_or_lt_of_le j1 with e | e
          · subst e; simpa using h12
          · exact h3 j (by omega) j2)
      · skip
        rw [nk_b0, pf_bit_iff _ (by omega)] at h12
        refine nk_iload_n (i := 1) dX8_greatestBit_15 rfl rfl ?_
        refine nk_ireturn dX8_greatestBit_16 rfl ?_
        exact ⟨by unfold sp_hi; rw [nk_dn_eq (k := k - 1) (by omega) (by simpa using h12) (fun j j1 j2 => h3 j (by omega) j2), nk_pm1 hk]; rfl, rfl⟩
set_option maxRecDepth 20000 in
theorem s_X8_greatestBit {G : nk_EG} {x : Int32} {H : nk_AH} : nk_Si G mX8_greatestBit 2 [.int x] H (sp_hi x) H := by
  refine nk_S.of (by decide +kernel) (Nat.le_of_ble_eq_true rfl) rfl ?_
  refine nk_bipush (v := 31) dX8_greatestBit_0 (by decide) ?_
  refine nk_istore_nT (i := 1) dX8_greatestBit_2 rfl (by decide) ?_
  exact l_X8_greatestBit 33 32 (by omega) (by omega) (fun j j1 j2 => by omega)
set_option maxRecDepth 20000 in
theorem s_X8_bits {G : nk_EG} {ad : Nat → Nat} {A : Nat → Nat → Int32} {I : Nat → Int32} (hi : mInj ad) {m b : Nat} (hm : mSh (A 0) 0 m b) {s l i x : Int32} : nk_Si G mX8_bits 5 [.ref (ad 0), .int s, .int l, .int i, .int x] (mh ad A I) (sp_bits m b (fun s w => A 0 (0 + 6 + 32 * s + w)) s l i x) (mh ad A I) := by
  refine nk_S.of (by decide +kernel) (Nat.le_of_ble_eq_true rfl) rfl ?_
  refine nk_aload_n (i := 0) dX8_bits_0 rfl rfl ?_
  refine nk_iload_n (i := 1) dX8_bits_1 rfl rfl ?_
  refine nk_iload_n (i := 2) dX8_bits_2 rfl rfl ?_
  refine nk_iload_n (i := 3) dX8_bits_3 rfl rfl ?_
  refine nk_cVi kX8_265 (s_X8_isWord hi hm) dX8_bits_4 mh_0 rfl rfl (by decide) (Nat.le_of_ble_eq_true rfl) ?_
  refine nk_ifeq (tgt := 23) dX8_bits_7 (by decide) (fun h7 => ?_) (fun h7 => ?_)
  · skip
    try simp only [nk_b0, Int32.toInt_toInt64, Classical.not_not, nk_l0, nk_l1, nk_l2, nk_l60] at h7
    refine nk_ldc qX8_49 dX8_bits_23 ?_
    refine nk_ireturn dX8_bits_25 rfl ?_
    first
    | exact ⟨by unfold sp_bits; rw [if_neg h7], rfl⟩
    | exact ⟨by unfold sp_bits; rw [if_pos h7, if_neg h20], rfl⟩
    | exact ⟨by unfold sp_bits; rw [if_pos h7, if_pos h20, if_pos h37], rfl⟩
    | exact ⟨by unfold sp_bits; rw [if_pos h7, if_pos h20, if_neg h37, if_pos h51], rfl⟩
    | exact ⟨by unfold sp_bits; rw [if_pos h7, if_pos h20, if_neg h37, if_neg h51], rfl⟩
  · skip
    try simp only [nk_b0, Int32.toInt_toInt64, Classical.not_not, nk_l0, nk_l1, nk_l2, nk_l60] at h7
    refine nk_iload dX8_bits_10 rfl ?_
    refine nk_i2l dX8_bits_12 ?_
    refine nk_lconst (v := 0) dX8_bits_13 rfl ?_
    refine nk_ldc2 qX8_47 dX8_bits_14 ?_
    refine nk_cSi kX8_39 (s_X8_in) dX8_bits_17 rfl rfl (by decide) (Nat.le_of_ble_eq_true rfl) ?_
    refine nk_ifne (tgt := 26) dX8_bits_20 (by decide) (fun h20 => ?_) (fun h20 => ?_)
    · skip
      try simp only [nk_b0, Int32.toInt_toInt64, Classical.not_not, nk_l0, nk_l1, nk_l2, nk_l60] at h20
      refine nk_aload_n (i := 0) dX8_bits_26 rfl rfl ?_
      refine nk_iload_n (i := 1) dX8_bits_27 rfl rfl ?_
      refine nk_iload_n (i := 2) dX8_bits_28 rfl rfl ?_
      refine nk_iload_n (i := 3) dX8_bits_29 rfl rfl ?_
      refine nk_cVi kX8_268 (s_X8_wordOf hi hm h7) dX8_bits_30 mh_0 rfl rfl (by decide) (Nat.le_of_ble_eq_true rfl) ?_
      refine nk_istoreT dX8_bits_33 (by decide) ?_
      refine nk_iload dX8_bits_35 rfl ?_
      refine nk_ifne (tgt := 48) dX8_bits_37 (by decide) (fun h37 => ?_) (fun h37 => ?_)
      · skip
        try simp only [nk_b0, Int32.toInt_toInt64, Classical.not_not, nk_l0, nk_l1, nk_l2, nk_l60] at h37
        refine nk_iload dX8_bits_48 rfl ?_
        refine nk_iconst (v := 1) dX8_bits_50 (by decide) ?_
        refine nk_icmpne (tgt := 62) dX8_bits_51 (by decide) (fun h51 => ?_) (fun h51 => ?_)
        · skip
          try simp only [nk_b0, Int32.toInt_toInt64, Classical.not_not, nk_l0, nk_l1, nk_l2, nk_l60] at h51
          refine nk_iload dX8_bits_62 rfl ?_
          refine nk_cSi kX8_134 (s_X8_ones) dX8_bits_64 rfl rfl (by decide) (Nat.le_of_ble_eq_true rfl) ?_
          refine nk_ireturn dX8_bits_67 rfl ?_
          first
          | exact ⟨by unfold sp_bits; rw [if_neg h7], rfl⟩
          | exact ⟨by unfold sp_bits; rw [if_pos h7, if_neg h20], rfl⟩
          | exact ⟨by unfold sp_bits; rw [if_pos h7, if_pos h20, if_pos h37], rfl⟩
          | exact ⟨by unfold sp_bits; rw [if_pos h7, if_pos h20, if_neg h37, if_pos h51], rfl⟩
          | exact ⟨by unfold sp_bits; rw [if_pos h7, if_pos h20, if_neg h37, if_neg h51], rfl⟩
        · skip
          try simp only [nk_b0, Int32.toInt_toInt64, Classical.not_not, nk_l0, nk_l1, nk_l2, nk_l60] at h51
          refine nk_iload dX8_bits_54 rfl ?_
          refine nk_cSi kX8_244 (s_X8_leastBit) dX8_bits_56 rfl rfl (by decide) (Nat.le_of_ble_eq_true rfl) ?_
          refine nk_goto (tgt := 67) dX8_bits_59 (by decide) ?_
          refine nk_ireturn dX8_bits_67 rfl ?_
          first
          | exact ⟨by unfold sp_bits; rw [if_neg h7], rfl⟩
          | exact ⟨by unfold sp_bits; rw [if_pos h7, if_neg h20], rfl⟩
          | exact ⟨by unfold sp_bits; rw [if_pos h7, if_pos h20, if_pos h37], rfl⟩
          | exact ⟨by unfold sp_bits; rw [if_pos h7, if_pos h20, if_neg h37, if_pos h51], rfl⟩
          | exact ⟨by unfold sp_bits; rw [if_pos h7, if_pos h20, if_neg h37, if_neg h51], rfl⟩
      · skip
        try simp only [nk_b0, Int32.toInt_toInt64, Classical.not_not, nk_l0, nk_l1, nk_l2, nk_l60] at h37
        refine nk_iload dX8_bits_40 rfl ?_
        refine nk_cSi kX8_247 (s_X8_greatestBit) dX8_bits_42 rfl rfl (by decide) (Nat.le_of_ble_eq_true rfl) ?_
        refine nk_goto (tgt := 67) dX8_bits_45 (by decide) ?_
        refine nk_ireturn dX8_bits_67 rfl ?_
        first
        | exact ⟨by unfold sp_bits; rw [if_neg h7], rfl⟩
        | exact ⟨by unfold sp_bits; rw [if_pos h7, if_neg h20], rfl⟩
        | exact ⟨by unfold sp_bits; rw [if_pos h7, if_pos h20, if_pos h37], rfl⟩
        | exact ⟨by unfold sp_bits; rw [if_pos h7, if_pos h20, if_neg h37, if_pos h51], rfl⟩
        | exact ⟨by unfold sp_bits; rw [if_pos h7, if_pos h20, if_neg h37, if_neg h51], rfl⟩
    · skip
      try simp only [nk_b0, Int32.toInt_toInt64, Classical.not_not, nk_l0, nk_l1, nk_l2, nk_l60] at h20
      refine nk_ldc qX8_49 dX8_bits_23 ?_
      refine nk_ireturn dX8_bits_25 rfl ?_
      first
      | exact ⟨by unfold sp_bits; rw [if_neg h7], rfl⟩
      | exact ⟨by unfold sp_bits; rw [if_pos h7, if_neg h20], rfl⟩
      | exact ⟨by unfold sp_bits; rw [if_pos h7, if_pos h20, if_pos h37], rfl⟩
      | exact ⟨by unfold sp_bits; rw [if_pos h7, if_pos h20, if_neg h37, if_pos h51], rfl⟩
      | exact ⟨by unfold sp_bits; rw [if_pos h7, if_pos h20, if_neg h37, if_neg h51], rfl⟩
set_option maxRecDepth 20000 in
theorem s_X8_rest {G : nk_EG} {x : Int32} {H : nk_AH} : nk_Si G mX8_rest 1 [.int x] H (pf_rest x) H := by
  refine nk_S.of (by decide +kernel) (Nat.le_of_ble_eq_true rfl) rfl ?_
  refine nk_iload_n (i := 0) dX8_rest_0 rfl rfl ?_
  refine nk_iload_n (i := 0) dX8_rest_1 rfl rfl ?_
  refine nk_iconst (v := 1) dX8_rest_2 (by decide) ?_
  refine nk_isub dX8_rest_3 ?_
  refine nk_iand dX8_rest_4 ?_
  refine nk_ireturn dX8_rest_5 rfl ?_
  exact ⟨rfl, rfl⟩
set_option maxRecDepth 20000 in
theorem s_X8_part {G : nk_EG} {x y l : Int32} {H : nk_AH} : nk_Si G mX8_part 1 [.int x, .int y, .int l] H (pf_part x y l) H := by
  refine nk_S.of (by decide +kernel) (Nat.le_of_ble_eq_true rfl) rfl ?_
  refine nk_iconst (v := 1) dX8_part_0 (by decide) ?_
  refine nk_iload_n (i := 2) dX8_part_1 rfl rfl ?_
  refine nk_ishl dX8_part_2 ?_
  refine nk_istore_nT (i := 3) dX8_part_3 rfl (by decide) ?_
  refine nk_iload_n (i := 0) dX8_part_4 rfl rfl ?_
  refine nk_iload_n (i := 3) dX8_part_5 rfl rfl ?_
  refine nk_iload_n (i := 1) dX8_part_6 rfl rfl ?_
  refine nk_imul dX8_part_7 ?_
  refine nk_ishr dX8_part_8 ?_
  refine nk_iconst (v := 1) dX8_part_9 (by decide) ?_
  refine nk_iload_n (i := 3) dX8_part_10 rfl rfl ?_
  refine nk_ishl dX8_part_11 ?_
  refine nk_iconst (v := 1) dX8_part_12 (by decide) ?_
  refine nk_isub dX8_part_13 ?_
  refine nk_iand dX8_part_14 ?_
  refine nk_ireturn dX8_part_15 rfl ?_
  exact ⟨rfl, rfl⟩
set_option maxRecDepth 20000 in
theorem l_X8_highs {G : nk_EG} {x l h : Int32} {N : Nat} {H : nk_AH} (hN : (1 : Int32) <<< (h &&& 31) = nI N) (h32 : N ≤ 32) : ∀ (n : Nat) (k : Nat) (h1 : k ≤ N) (h2 : N < k + n), nk_J G mX8_highs 2 (nk_ri (pf_highs x l N) H) 0 0 5 [some (.int x), some (.int l), some (.int h), some (.int (pf_highs x l k)), some (.int (nI k))] [] H := by
  intro n
  induction n with
  | zero => intro k h1 h2; omega
  | succ n ih =>
    intro k h1 h2
    refine nk_iload dX8_highs_5 rfl ?_
    refine nk_iconst (v := 1) dX8_highs_7 (by decide) ?_
    refine nk_iload_n (i := 2) dX8_highs_8 rfl rfl ?_
    refine nk_ishl dX8_highs_9 ?_
    refine nk_top (y := nI N) (hN) ?_
    refine nk_icmpge (tgt := 40) dX8_highs_10 (by decide) (fun h10 => ?_) (fun h10 => ?_)
    · skip
      refine nk_iload_n (i := 3) dX8_highs_40 rfl rfl ?_
      refine nk_ireturn dX8_highs_41 rfl ?_
      have e2 : k = N := Nat.le_antisymm h1 (nk_leI h10 (by omega) (by omega))
      subst e2
      exact ⟨rfl, rfl⟩
    · skip
      have hk := nk_nleI (a := N) h10 (by omega) (by omega)
      refine nk_iload_n (i := 3) dX8_highs_13 rfl rfl ?_
      refine nk_iload_n (i := 0) dX8_highs_14 rfl rfl ?_
      refine nk_iload dX8_highs_15 rfl ?_
      refine nk_iload_n (i := 1) dX8_highs_17 rfl rfl ?_
      refine nk_cSi kX8_186 (s_X8_part) dX8_highs_18 rfl rfl (by decide) (Nat.le_of_ble_eq_true rfl) ?_
      refine nk_ifne (tgt := 28) dX8_highs_21 (by decide) (fun h21 => ?_) (fun h21 => ?_)
      · skip
        refine nk_iconst (v := 1) dX8_highs_28 (by decide) ?_
        refine nk_iload dX8_highs_29 rfl ?_
        refine nk_ishl dX8_highs_31 ?_
        refine nk_ior dX8_highs_32 ?_
        refine nk_istore_nT (i := 3) dX8_highs_33 rfl (by decide) ?_
        refine nk_iincT dX8_highs_34 rfl (nk_i1 k) (by decide) ?_
        refine nk_goto (tgt := 5) dX8_highs_37 (by decide) ?_
        refine (ih (k + 1) (by omega) (by omega)).to ?_ rfl rfl
        first
        | (rw [pf_highs, if_pos h21]; rfl)
        | (rw [pf_highs, if_neg h21]; rfl)
      · skip
        refine nk_iconst (v := 0) dX8_highs_24 (by decide) ?_
        refine nk_goto (tgt := 32) dX8_highs_25 (by decide) ?_
        refine nk_ior dX8_highs_32 ?_
        refine nk_istore_nT (i := 3) dX8_highs_33 rfl (by decide) ?_
        refine nk_iincT dX8_highs_34 rfl (nk_i1 k) (by decide) ?_
        refine nk_goto (tgt := 5) dX8_highs_37 (by decide) ?_
        refine (ih (k + 1) (by omega) (by omega)).to ?_ rfl rfl
        first
        | (rw [pf_highs, if_pos h21]; rfl)
        | (rw [pf_highs, if_neg h21]; rfl)
set_option maxRecDepth 20000 in
theorem s_X8_highs {G : nk_EG} {x l h : Int32} {N : Nat} {H : nk_AH} (hN : (1 : Int32) <<< (h &&& 31) = nI N) (h32 : N ≤ 32) : nk_Si G mX8_highs 2 [.int x, .int l, .int h] H (pf_highs x l N) H := by
  refine nk_S.of (by decide +kernel) (Nat.le_of_ble_eq_true rfl) rfl ?_
  refine nk_iconst (v := 0) dX8_highs_0 (by decide) ?_
  refine nk_istore_nT (i := 3) dX8_highs_1 rfl (by decide) ?_
  refine nk_iconst (v := 0) dX8_highs_2 (by decide) ?_
  refine nk_istoreT dX8_highs_3 (by decide) ?_
  exact l_X8_highs hN h32 (N + 1) 0 (by omega) (by omega)
set_option maxRecDepth 20000 in
theorem s_X8_nodes1 {G : nk_EG} {x : Int32} {H : nk_AH} : nk_Si G mX8_nodes1 1 [.int x] H (pf_n1 x) H := by
  refine nk_S.of (by decide +kernel) (Nat.le_of_ble_eq_true rfl) rfl ?_
  refine nk_iload_n (i := 0) dX8_nodes1_0 rfl rfl ?_
  refine nk_ifne (tgt := 8) dX8_nodes1_1 (by decide) (fun h1 => ?_) (fun h1 => ?_)
  · skip
    refine nk_iconst (v := 1) dX8_nodes1_8 (by decide) ?_
    refine nk_ireturn dX8_nodes1_9 rfl ?_
    first
    | exact ⟨by unfold pf_n1; rw [if_pos h1], rfl⟩
    | exact ⟨by unfold pf_n1; rw [if_neg h1], rfl⟩
  · skip
    refine nk_iconst (v := 0) dX8_nodes1_4 (by decide) ?_
    refine nk_goto (tgt := 9) dX8_nodes1_5 (by decide) ?_
    refine nk_ireturn dX8_nodes1_9 rfl ?_
    first
    | exact ⟨by unfold pf_n1; rw [if_pos h1], rfl⟩
    | exact ⟨by unfold pf_n1; rw [if_neg h1], rfl⟩
set_option maxRecDepth 20000 in
theorem s_X8_nodes2 {G : nk_EG} {x : Int32} {H : nk_AH} : nk_Si G mX8_nodes2 3 [.int x] H (pf_n2 x) H := by
  refine nk_S.of (by decide +kernel) (Nat.le_of_ble_eq_true rfl) rfl ?_
  refine nk_iload_n (i := 0) dX8_nodes2_0 rfl rfl ?_
  refine nk_cSi kX8_190 (s_X8_rest) dX8_nodes2_1 rfl rfl (by decide) (Nat.le_of_ble_eq_true rfl) ?_
  refine nk_istore_nT (i := 1) dX8_nodes2_4 rfl (by decide) ?_
  refine nk_iload_n (i := 0) dX8_nodes2_5 rfl rfl ?_
  refine nk_ifne (tgt := 13) dX8_nodes2_6 (by decide) (fun h6 => ?_) (fun h6 => ?_)
  · skip
    refine nk_iconst (v := 1) dX8_nodes2_13 (by decide) ?_
    refine nk_iload_n (i := 1) dX8_nodes2_14 rfl rfl ?_
    refine nk_iconst (v := 1) dX8_nodes2_15 (by decide) ?_
    refine nk_iconst (v := 1) dX8_nodes2_16 (by decide) ?_
    refine nk_cSi kX8_193 (s_X8_highs (N := 2) (by decide) (by decide)) dX8_nodes2_17 rfl rfl (by decide) (Nat.le_of_ble_eq_true rfl) ?_
    refine nk_cSi kX8_196 (s_X8_nodes1) dX8_nodes2_20 rfl rfl (by decide) (Nat.le_of_ble_eq_true rfl) ?_
    refine nk_iadd dX8_nodes2_23 ?_
    refine nk_iload_n (i := 1) dX8_nodes2_24 rfl rfl ?_
    refine nk_iconst (v := 0) dX8_nodes2_25 (by decide) ?_
    refine nk_iconst (v := 1) dX8_nodes2_26 (by decide) ?_
    refine nk_cSi kX8_186 (s_X8_part) dX8_nodes2_27 rfl rfl (by decide) (Nat.le_of_ble_eq_true rfl) ?_
    refine nk_cSi kX8_196 (s_X8_nodes1) dX8_nodes2_30 rfl rfl (by decide) (Nat.le_of_ble_eq_true rfl) ?_
    refine nk_iadd dX8_nodes2_33 ?_
    refine nk_iload_n (i := 1) dX8_nodes2_34 rfl rfl ?_
    refine nk_iconst (v := 1) dX8_nodes2_35 (by decide) ?_
    refine nk_iconst (v := 1) dX8_nodes2_36 (by decide) ?_
    refine nk_cSi kX8_186 (s_X8_part) dX8_nodes2_37 rfl rfl (by decide) (Nat.le_of_ble_eq_true rfl) ?_
    refine nk_cSi kX8_196 (s_X8_nodes1) dX8_nodes2_40 rfl rfl (by decide) (Nat.le_of_ble_eq_true rfl) ?_
    refine nk_iadd dX8_nodes2_43 ?_
    refine nk_ireturn dX8_nodes2_44 rfl ?_
    first
    | exact ⟨by unfold pf_n2; rw [if_pos h6], rfl⟩
    | exact ⟨by unfold pf_n2; rw [if_neg h6], rfl⟩
  · skip
    refine nk_iconst (v := 0) dX8_nodes2_9 (by decide) ?_
    refine nk_goto (tgt := 44) dX8_nodes2_10 (by decide) ?_
    refine nk_ireturn dX8_nodes2_44 rfl ?_
    first
    | exact ⟨by unfold pf_n2; rw [if_pos h6], rfl⟩
    | exact ⟨by unfold pf_n2; rw [if_neg h6], rfl⟩
set_option maxRecDepth 20000 in
theorem l_X8_nodes3 {G : nk_EG} {x : Int32} {H : nk_AH} : ∀ (n : Nat) (k : Nat) (h1 : k ≤ 4) (h2 : 4 < k + n), nk_J G mX8_nodes3 4 (nk_ri (pf_n3 x) H) 0 0 27 [some (.int x), some (.int (pf_rest x)), some (.int (pf_acc (if x = 0 then 0 else 1 + pf_n2 (pf_highs (pf_rest x) 1 4)) (fun y => pf_n1 (pf_part (pf_rest x) (nI y) 1)) k)), some (.int (nI k))] [] H := by
  intro n
  induction n with
  | zero => intro k h1 h2; omega
  | succ n ih =>
    intro k h1 h2
    refine nk_iload_n (i := 3) dX8_nodes3_27 rfl rfl ?_
    refine nk_iconst (v := 4) dX8_nodes3_28 (by decide) ?_
    refine nk_icmpge (tgt := 50) dX8_nodes3_29 (by decide) (fun h29 => ?_) (fun h29 => ?_)
    · skip
      refine nk_iload_n (i := 2) dX8_nodes3_50 rfl rfl ?_
      refine nk_ireturn dX8_nodes3_51 rfl ?_
      have e2 : k = 4 := Nat.le_antisymm h1 (nk_leI (a := 4) h29 (by omega) (by omega))
      subst e2
      exact ⟨rfl, rfl⟩
    · skip
      refine nk_iload_n (i := 2) dX8_nodes3_32 rfl rfl ?_
      refine nk_iload_n (i := 1) dX8_nodes3_33 rfl rfl ?_
      refine nk_iload_n (i := 3) dX8_nodes3_34 rfl rfl ?_
      refine nk_iconst (v := 1) dX8_nodes3_35 (by decide) ?_
      refine nk_cSi kX8_186 (s_X8_part) dX8_nodes3_36 rfl rfl (by decide) (Nat.le_of_ble_eq_true rfl) ?_
      refine nk_cSi kX8_196 (s_X8_nodes1) dX8_nodes3_39 rfl rfl (by decide) (Nat.le_of_ble_eq_true rfl) ?_
      refine nk_iadd dX8_nodes3_42 ?_
      refine nk_istore_nT (i := 2) dX8_nodes3_43 rfl (by decide) ?_
      refine nk_iincT dX8_nodes3_44 rfl (nk_i1 k) (by decide) ?_
      refine nk_goto (tgt := 27) dX8_nodes3_47 (by decide) ?_
      exact ih (k + 1) (by have := nk_nleI (a := 4) h29 (by omega) (by omega); omega) (by omega)
set_option maxRecDepth 20000 in
theorem s_X8_nodes3 {G : nk_EG} {x : Int32} {H : nk_AH} : nk_Si G mX8_nodes3 4 [.int x] H (pf_n3 x) H := by
  refine nk_S.of (by decide +kernel) (Nat.le_of_ble_eq_true rfl) rfl ?_
  refine nk_iload_n (i := 0) dX8_nodes3_0 rfl rfl ?_
  refine nk_cSi kX8_190 (s_X8_rest) dX8_nodes3_1 rfl rfl (by decide) (Nat.le_of_ble_eq_true rfl) ?_
  refine nk_istore_nT (i := 1) dX8_nodes3_4 rfl (by decide) ?_
  refine nk_iload_n (i := 0) dX8_nodes3_5 rfl rfl ?_
  refine nk_ifne (tgt := 13) dX8_nodes3_6 (by decide) (fun h6 => ?_) (fun h6 => ?_)
  · skip
    refine nk_iconst (v := 1) dX8_nodes3_13 (by decide) ?_
    refine nk_iload_n (i := 1) dX8_nodes3_14 rfl rfl ?_
    refine nk_iconst (v := 1) dX8_nodes3_15 (by decide) ?_
    refine nk_iconst (v := 2) dX8_nodes3_16 (by decide) ?_
    refine nk_cSi kX8_193 (s_X8_highs (N := 4) (by decide) (by decide)) dX8_nodes3_17 rfl rfl (by decide) (Nat.le_of_ble_eq_true rfl) ?_
    refine nk_cSi kX8_199 (s_X8_nodes2) dX8_nodes3_20 rfl rfl (by decide) (Nat.le_of_ble_eq_true rfl) ?_
    refine nk_iadd dX8_nodes3_23 ?_
    refine nk_top (y := if x = 0 then 0 else 1 + pf_n2 (pf_highs (pf_rest x) 1 4)) (by first | rw [if_pos h6] | rw [if_neg h6]) ?_
    refine nk_istore_nT (i := 2) dX8_nodes3_24 rfl (by decide) ?_
    refine nk_iconst (v := 0) dX8_nodes3_25 (by decide) ?_
    refine nk_istore_nT (i := 3) dX8_nodes3_26 rfl (by decide) ?_
    exact l_X8_nodes3 5 0 (by omega) (by omega)
  · skip
    refine nk_iconst (v := 0) dX8_nodes3_9 (by decide) ?_
    refine nk_goto (tgt := 24) dX8_nodes3_10 (by decide) ?_
    refine nk_top (y := if x = 0 then 0 else 1 + pf_n2 (pf_highs (pf_rest x) 1 4)) (by first | rw [if_pos h6] | rw [if_neg h6]) ?_
    refine nk_istore_nT (i := 2) dX8_nodes3_24 rfl (by decide) ?_
    refine nk_iconst (v := 0) dX8_nodes3_25 (by decide) ?_
    refine nk_istore_nT (i := 3) dX8_nodes3_26 rfl (by decide) ?_
    exact l_X8_nodes3 5 0 (by omega) (by omega)
set_option maxRecDepth 20000 in
theorem l_X8_nodes4 {G : nk_EG} {x : Int32} {H : nk_AH} : ∀ (n : Nat) (k : Nat) (h1 : k ≤ 4) (h2 : 4 < k + n), nk_J G mX8_nodes4 4 (nk_ri (pf_n4 x) H) 0 0 27 [some (.int x), some (.int (pf_rest x)), some (.int (pf_acc (if x = 0 then 0 else 1 + pf_n2 (pf_highs (pf_rest x) 2 4)) (fun y => pf_n2 (pf_part (pf_rest x) (nI y) 2)) k)), some (.int (nI k))] [] H := by
  intro n
  induction n with
  | zero => intro k h1 h2; omega
  | succ n ih =>
    intro k h1 h2
    refine nk_iload_n (i := 3) dX8_nodes4_27 rfl rfl ?_
    refine nk_iconst (v := 4) dX8_nodes4_28 (by decide) ?_
    refine nk_icmpge (tgt := 50) dX8_nodes4_29 (by decide) (fun h29 => ?_) (fun h29 => ?_)
    · skip
      refine nk_iload_n (i := 2) dX8_nodes4_50 rfl rfl ?_
      refine nk_ireturn dX8_nodes4_51 rfl ?_
      have e2 : k = 4 := Nat.le_antisymm h1 (nk_leI (a := 4) h29 (by omega) (by omega))
      subst e2
      exact ⟨rfl, rfl⟩
    · skip
      refine nk_iload_n (i := 2) dX8_nodes4_32 rfl rfl ?_
      refine nk_iload_n (i := 1) dX8_nodes4_33 rfl rfl ?_
      refine nk_iload_n (i := 3) dX8_nodes4_34 rfl rfl ?_
      refine nk_iconst (v := 2) dX8_nodes4_35 (by decide) ?_
      refine nk_cSi kX8_186 (s_X8_part) dX8_nodes4_36 rfl rfl (by decide) (Nat.le_of_ble_eq_true rfl) ?_
      refine nk_cSi kX8_199 (s_X8_nodes2) dX8_nodes4_39 rfl rfl (by decide) (Nat.le_of_ble_eq_true rfl) ?_
      refine nk_iadd dX8_nodes4_42 ?_
      refine nk_istore_nT (i := 2) dX8_nodes4_43 rfl (by decide) ?_
      refine nk_iincT dX8_nodes4_44 rfl (nk_i1 k) (by decide) ?_
      refine nk_goto (tgt := 27) dX8_nodes4_47 (by decide) ?_
      exact ih (k + 1) (by have := nk_nleI (a := 4) h29 (by omega) (by omega); omega) (by omega)
set_option maxRecDepth 20000 in
theorem s_X8_nodes4 {G : nk_EG} {x : Int32} {H : nk_AH} : nk_Si G mX8_nodes4 4 [.int x] H (pf_n4 x) H := by
  refine nk_S.of (by decide +kernel) (Nat.le_of_ble_eq_true rfl) rfl ?_
  refine nk_iload_n (i := 0) dX8_nodes4_0 rfl rfl ?_
  refine nk_cSi kX8_190 (s_X8_rest) dX8_nodes4_1 rfl rfl (by decide) (Nat.le_of_ble_eq_true rfl) ?_
  refine nk_istore_nT (i := 1) dX8_nodes4_4 rfl (by decide) ?_
  refine nk_iload_n (i := 0) dX8_nodes4_5 rfl rfl ?_
  refine nk_ifne (tgt := 13) dX8_nodes4_6 (by decide) (fun h6 => ?_) (fun h6 => ?_)
  · skip
    refine nk_iconst (v := 1) dX8_nodes4_13 (by decide) ?_
    refine nk_iload_n (i := 1) dX8_nodes4_14 rfl rfl ?_
    refine nk_iconst (v := 2) dX8_nodes4_15 (by decide) ?_
    refine nk_iconst (v := 2) dX8_nodes4_16 (by decide) ?_
    refine nk_cSi kX8_193 (s_X8_highs (N := 4) (by decide) (by decide)) dX8_nodes4_17 rfl rfl (by decide) (Nat.le_of_ble_eq_true rfl) ?_
    refine nk_cSi kX8_199 (s_X8_nodes2) dX8_nodes4_20 rfl rfl (by decide) (Nat.le_of_ble_eq_true rfl) ?_
    refine nk_iadd dX8_nodes4_23 ?_
    refine nk_top (y := if x = 0 then 0 else 1 + pf_n2 (pf_highs (pf_rest x) 2 4)) (by first | rw [if_pos h6] | rw [if_neg h6]) ?_
    refine nk_istore_nT (i := 2) dX8_nodes4_24 rfl (by decide) ?_
    refine nk_iconst (v := 0) dX8_nodes4_25 (by decide) ?_
    refine nk_istore_nT (i := 3) dX8_nodes4_26 rfl (by decide) ?_
    exact l_X8_nodes4 5 0 (by omega) (by omega)
  · skip
    refine nk_iconst (v := 0) dX8_nodes4_9 (by decide) ?_
    refine nk_goto (tgt := 24) dX8_nodes4_10 (by decide) ?_
    refine nk_top (y := if x = 0 then 0 else 1 + pf_n2 (pf_highs (pf_rest x) 2 4)) (by first | rw [if_pos h6] | rw [if_neg h6]) ?_
    refine nk_istore_nT (i := 2) dX8_nodes4_24 rfl (by decide) ?_
    refine nk_iconst (v := 0) dX8_nodes4_25 (by decide) ?_
    refine nk_istore_nT (i := 3) dX8_nodes4_26 rfl (by decide) ?_
    exact l_X8_nodes4 5 0 (by omega) (by omega)
set_option maxRecDepth 20000 in
theorem l_X8_nodes5 {G : nk_EG} {x : Int32} {H : nk_AH} : ∀ (n : Nat) (k : Nat) (h1 : k ≤ 8) (h2 : 8 < k + n), nk_J G mX8_nodes5 5 (nk_ri (pf_n5 x) H) 0 0 27 [some (.int x), some (.int (pf_rest x)), some (.int (pf_acc (if x = 0 then 0 else 1 + pf_n3 (pf_highs (pf_rest x) 2 8)) (fun y => pf_n2 (pf_part (pf_rest x) (nI y) 2)) k)), some (.int (nI k))] [] H := by
  intro n
  induction n with
  | zero => intro k h1 h2; omega
  | succ n ih =>
    intro k h1 h2
    refine nk_iload_n (i := 3) dX8_nodes5_27 rfl rfl ?_
    refine nk_bipush (v := 8) dX8_nodes5_28 (by decide) ?_
    refine nk_icmpge (tgt := 51) dX8_nodes5_30 (by decide) (fun h30 => ?_) (fun h30 => ?_)
    · skip
      refine nk_iload_n (i := 2) dX8_nodes5_51 rfl rfl ?_
      refine nk_ireturn dX8_nodes5_52 rfl ?_
      have e2 : k = 8 := Nat.le_antisymm h1 (nk_leI (a := 8) h30 (by omega) (by omega))
      subst e2
      exact ⟨rfl, rfl⟩
    · skip
      refine nk_iload_n (i := 2) dX8_nodes5_33 rfl rfl ?_
      refine nk_iload_n (i := 1) dX8_nodes5_34 rfl rfl ?_
      refine nk_iload_n (i := 3) dX8_nodes5_35 rfl rfl ?_
      refine nk_iconst (v := 2) dX8_nodes5_36 (by decide) ?_
      refine nk_cSi kX8_186 (s_X8_part) dX8_nodes5_37 rfl rfl (by decide) (Nat.le_of_ble_eq_true rfl) ?_
      refine nk_cSi kX8_199 (s_X8_nodes2) dX8_nodes5_40 rfl rfl (by decide) (Nat.le_of_ble_eq_true rfl) ?_
      refine nk_iadd dX8_nodes5_43 ?_
      refine nk_istore_nT (i := 2) dX8_nodes5_44 rfl (by decide) ?_
      refine nk_iincT dX8_nodes5_45 rfl (nk_i1 k) (by decide) ?_
      refine nk_goto (tgt := 27) dX8_nodes5_48 (by decide) ?_
      exact ih (k + 1) (by have := nk_nleI (a := 8) h30 (by omega) (by omega); omega) (by omega)
set_option maxRecDepth 20000 in
theorem s_X8_nodes5 {G : nk_EG} {x : Int32} {H : nk_AH} : nk_Si G mX8_nodes5 5 [.int x] H (pf_n5 x) H := by
  refine nk_S.of (by decide +kernel) (Nat.le_of_ble_eq_true rfl) rfl ?_
  refine nk_iload_n (i := 0) dX8_nodes5_0 rfl rfl ?_
  refine nk_cSi kX8_190 (s_X8_rest) dX8_nodes5_1 rfl rfl (by decide) (Nat.le_of_ble_eq_true rfl) ?_
  refine nk_istore_nT (i := 1) dX8_nodes5_4 rfl (by decide) ?_
  refine nk_iload_n (i := 0) dX8_nodes5_5 rfl rfl ?_
  refine nk_ifne (tgt := 13) dX8_nodes5_6 (by decide) (fun h6 => ?_) (fun h6 => ?_)
  · skip
    refine nk_iconst (v := 1) dX8_nodes5_13 (by decide) ?_
    refine nk_iload_n (i := 1) dX8_nodes5_14 rfl rfl ?_
    refine nk_iconst (v := 2) dX8_nodes5_15 (by decide) ?_
    refine nk_iconst (v := 3) dX8_nodes5_16 (by decide) ?_
    refine nk_cSi kX8_193 (s_X8_highs (N := 8) (by decide) (by decide)) dX8_nodes5_17 rfl rfl (by decide) (Nat.le_of_ble_eq_true rfl) ?_
    refine nk_cSi kX8_202 (s_X8_nodes3) dX8_nodes5_20 rfl rfl (by decide) (Nat.le_of_ble_eq_true rfl) ?_
    refine nk_iadd dX8_nodes5_23 ?_
    refine nk_top (y := if x = 0 then 0 else 1 + pf_n3 (pf_highs (pf_rest x) 2 8)) (by first | rw [if_pos h6] | rw [if_neg h6]) ?_
    refine nk_istore_nT (i := 2) dX8_nodes5_24 rfl (by decide) ?_
    refine nk_iconst (v := 0) dX8_nodes5_25 (by decide) ?_
    refine nk_istore_nT (i := 3) dX8_nodes5_26 rfl (by decide) ?_
    exact l_X8_nodes5 9 0 (by omega) (by omega)
  · skip
    refine nk_iconst (v := 0) dX8_nodes5_9 (by decide) ?_
    refine nk_goto (tgt := 24) dX8_nodes5_10 (by decide) ?_
    refine nk_top (y := if x = 0 then 0 else 1 + pf_n3 (pf_highs (pf_rest x) 2 8)) (by first | rw [if_pos h6] | rw [if_neg h6]) ?_
    refine nk_istore_nT (i := 2) dX8_nodes5_24 rfl (by decide) ?_
    refine nk_iconst (v := 0) dX8_nodes5_25 (by decide) ?_
    refine nk_istore_nT (i := 3) dX8_nodes5_26 rfl (by decide) ?_
    exact l_X8_nodes5 9 0 (by omega) (by omega)
set_option maxRecDepth 20000 in
theorem s_X8_nodesOf {G : nk_EG} {x b : Int32} {H : nk_AH} : nk_Si G mX8_nodesOf 6 [.int x, .int b] H (pf_nd x b) H := by
  refine nk_S.of (by decide +kernel) (Nat.le_of_ble_eq_true rfl) rfl ?_
  refine nk_iload_n (i := 1) dX8_nodesOf_0 rfl rfl ?_
  refine nk_iconst (v := 1) dX8_nodesOf_1 (by decide) ?_
  refine nk_icmpne (tgt := 12) dX8_nodesOf_2 (by decide) (fun h2 => ?_) (fun h2 => ?_)
  · skip
    refine nk_iload_n (i := 1) dX8_nodesOf_12 rfl rfl ?_
    refine nk_iconst (v := 2) dX8_nodesOf_13 (by decide) ?_
    refine nk_icmpne (tgt := 24) dX8_nodesOf_14 (by decide) (fun h14 => ?_) (fun h14 => ?_)
    · skip
      refine nk_iload_n (i := 1) dX8_nodesOf_24 rfl rfl ?_
      refine nk_iconst (v := 3) dX8_nodesOf_25 (by decide) ?_
      refine nk_icmpne (tgt := 36) dX8_nodesOf_26 (by decide) (fun h26 => ?_) (fun h26 => ?_)
      · skip
        refine nk_iload_n (i := 1) dX8_nodesOf_36 rfl rfl ?_
        refine nk_iconst (v := 4) dX8_nodesOf_37 (by decide) ?_
        refine nk_icmpne (tgt := 48) dX8_nodesOf_38 (by decide) (fun h38 => ?_) (fun h38 => ?_)
        · skip
          refine nk_iload_n (i := 0) dX8_nodesOf_48 rfl rfl ?_
          refine nk_cSi kX8_208 (s_X8_nodes5) dX8_nodesOf_49 rfl rfl (by decide) (Nat.le_of_ble_eq_true rfl) ?_
          refine nk_ireturn dX8_nodesOf_52 rfl ?_
          first
          | exact ⟨by unfold pf_nd; rw [if_pos h2], rfl⟩
          | exact ⟨by unfold pf_nd; rw [if_neg h2, if_pos h14], rfl⟩
          | exact ⟨by unfold pf_nd; rw [if_neg h2, if_neg h14, if_pos h26], rfl⟩
          | exact ⟨by unfold pf_nd; rw [if_neg h2, if_neg h14, if_neg h26, if_pos h38], rfl⟩
          | exact ⟨by unfold pf_nd; rw [if_neg h2, if_neg h14, if_neg h26, if_neg h38], rfl⟩
        · skip
          refine nk_iload_n (i := 0) dX8_nodesOf_41 rfl rfl ?_
          refine nk_cSi kX8_205 (s_X8_nodes4) dX8_nodesOf_42 rfl rfl (by decide) (Nat.le_of_ble_eq_true rfl) ?_
          refine nk_goto (tgt := 52) dX8_nodesOf_45 (by decide) ?_
          refine nk_ireturn dX8_nodesOf_52 rfl ?_
          first
          | exact ⟨by unfold pf_nd; rw [if_pos h2], rfl⟩
          | exact ⟨by unfold pf_nd; rw [if_neg h2, if_pos h14], rfl⟩
          | exact ⟨by unfold pf_nd; rw [if_neg h2, if_neg h14, if_pos h26], rfl⟩
          | exact ⟨by unfold pf_nd; rw [if_neg h2, if_neg h14, if_neg h26, if_pos h38], rfl⟩
          | exact ⟨by unfold pf_nd; rw [if_neg h2, if_neg h14, if_neg h26, if_neg h38], rfl⟩
      · skip
        refine nk_iload_n (i := 0) dX8_nodesOf_29 rfl rfl ?_
        refine nk_cSi kX8_202 (s_X8_nodes3) dX8_nodesOf_30 rfl rfl (by decide) (Nat.le_of_ble_eq_true rfl) ?_
        refine nk_goto (tgt := 52) dX8_nodesOf_33 (by decide) ?_
        refine nk_ireturn dX8_nodesOf_52 rfl ?_
        first
        | exact ⟨by unfold pf_nd; rw [if_pos h2], rfl⟩
        | exact ⟨by unfold pf_nd; rw [if_neg h2, if_pos h14], rfl⟩
        | exact ⟨by unfold pf_nd; rw [if_neg h2, if_neg h14, if_pos h26], rfl⟩
        | exact ⟨by unfold pf_nd; rw [if_neg h2, if_neg h14, if_neg h26, if_pos h38], rfl⟩
        | exact ⟨by unfold pf_nd; rw [if_neg h2, if_neg h14, if_neg h26, if_neg h38], rfl⟩
    · skip
      refine nk_iload_n (i := 0) dX8_nodesOf_17 rfl rfl ?_
      refine nk_cSi kX8_199 (s_X8_nodes2) dX8_nodesOf_18 rfl rfl (by decide) (Nat.le_of_ble_eq_true rfl) ?_
      refine nk_goto (tgt := 52) dX8_nodesOf_21 (by decide) ?_
      refine nk_ireturn dX8_nodesOf_52 rfl ?_
      first
      | exact ⟨by unfold pf_nd; rw [if_pos h2], rfl⟩
      | exact ⟨by unfold pf_nd; rw [if_neg h2, if_pos h14], rfl⟩
      | exact ⟨by unfold pf_nd; rw [if_neg h2, if_neg h14, if_pos h26], rfl⟩
      | exact ⟨by unfold pf_nd; rw [if_neg h2, if_neg h14, if_neg h26, if_pos h38], rfl⟩
      | exact ⟨by unfold pf_nd; rw [if_neg h2, if_neg h14, if_neg h26, if_neg h38], rfl⟩
  · skip
    refine nk_iload_n (i := 0) dX8_nodesOf_5 rfl rfl ?_
    refine nk_cSi kX8_196 (s_X8_nodes1) dX8_nodesOf_6 rfl rfl (by decide) (Nat.le_of_ble_eq_true rfl) ?_
    refine nk_goto (tgt := 52) dX8_nodesOf_9 (by decide) ?_
    refine nk_ireturn dX8_nodesOf_52 rfl ?_
    first
    | exact ⟨by unfold pf_nd; rw [if_pos h2], rfl⟩
    | exact ⟨by unfold pf_nd; rw [if_neg h2, if_pos h14], rfl⟩
    | exact ⟨by unfold pf_nd; rw [if_neg h2, if_neg h14, if_pos h26], rfl⟩
    | exact ⟨by unfold pf_nd; rw [if_neg h2, if_neg h14, if_neg h26, if_pos h38], rfl⟩
    | exact ⟨by unfold pf_nd; rw [if_neg h2, if_neg h14, if_neg h26, if_neg h38], rfl⟩
set_option maxRecDepth 20000 in
theorem s_X8_more {G : nk_EG} {x y : Int32} {H : nk_AH} : nk_Si G mX8_more 1 [.int x, .int y] H (pf_mx x y) H := by
  refine nk_S.of (by decide +kernel) (Nat.le_of_ble_eq_true rfl) rfl ?_
  refine nk_iload_n (i := 0) dX8_more_0 rfl rfl ?_
  refine nk_iload_n (i := 1) dX8_more_1 rfl rfl ?_
  refine nk_icmple (tgt := 9) dX8_more_2 (by decide) (fun h2 => ?_) (fun h2 => ?_)
  · skip
    refine nk_iload_n (i := 1) dX8_more_9 rfl rfl ?_
    refine nk_ireturn dX8_more_10 rfl ?_
    first
    | exact ⟨by unfold pf_mx; rw [if_pos h2], rfl⟩
    | exact ⟨by unfold pf_mx; rw [if_neg h2], rfl⟩
  · skip
    refine nk_iload_n (i := 0) dX8_more_5 rfl rfl ?_
    refine nk_goto (tgt := 10) dX8_more_6 (by decide) ?_
    refine nk_ireturn dX8_more_10 rfl ?_
    first
    | exact ⟨by unfold pf_mx; rw [if_pos h2], rfl⟩
    | exact ⟨by unfold pf_mx; rw [if_neg h2], rfl⟩
set_option maxRecDepth 20000 in
theorem s_X8_deep2 {G : nk_EG} {x : Int32} {H : nk_AH} : nk_Si G mX8_deep2 2 [.int x] H (pf_d2 x) H := by
  refine nk_S.of (by decide +kernel) (Nat.le_of_ble_eq_true rfl) rfl ?_
  refine nk_iload_n (i := 0) dX8_deep2_0 rfl rfl ?_
  refine nk_ifne (tgt := 8) dX8_deep2_1 (by decide) (fun h1 => ?_) (fun h1 => ?_)
  · skip
    refine nk_iload_n (i := 0) dX8_deep2_8 rfl rfl ?_
    refine nk_cSi kX8_190 (s_X8_rest) dX8_deep2_9 rfl rfl (by decide) (Nat.le_of_ble_eq_true rfl) ?_
    refine nk_ifne (tgt := 19) dX8_deep2_12 (by decide) (fun h12 => ?_) (fun h12 => ?_)
    · skip
      refine nk_iconst (v := 2) dX8_deep2_19 (by decide) ?_
      refine nk_ireturn dX8_deep2_20 rfl ?_
      first
      | exact ⟨by unfold pf_d2; rw [if_pos h1], rfl⟩
      | exact ⟨by unfold pf_d2; rw [if_neg h1, if_pos h12], rfl⟩
      | exact ⟨by unfold pf_d2; rw [if_neg h1, if_neg h12], rfl⟩
    · skip
      refine nk_iconst (v := 1) dX8_deep2_15 (by decide) ?_
      refine nk_goto (tgt := 20) dX8_deep2_16 (by decide) ?_
      refine nk_ireturn dX8_deep2_20 rfl ?_
      first
      | exact ⟨by unfold pf_d2; rw [if_pos h1], rfl⟩
      | exact ⟨by unfold pf_d2; rw [if_neg h1, if_pos h12], rfl⟩
      | exact ⟨by unfold pf_d2; rw [if_neg h1, if_neg h12], rfl⟩
  · skip
    refine nk_iconst (v := 0) dX8_deep2_4 (by decide) ?_
    refine nk_goto (tgt := 20) dX8_deep2_5 (by decide) ?_
    refine nk_ireturn dX8_deep2_20 rfl ?_
    first
    | exact ⟨by unfold pf_d2; rw [if_pos h1], rfl⟩
    | exact ⟨by unfold pf_d2; rw [if_neg h1, if_pos h12], rfl⟩
    | exact ⟨by unfold pf_d2; rw [if_neg h1, if_neg h12], rfl⟩
set_option maxRecDepth 20000 in
theorem s_X8_deep3 {G : nk_EG} {x : Int32} {H : nk_AH} : nk_Si G mX8_deep3 3 [.int x] H (pf_d3 x) H := by
  refine nk_S.of (by decide +kernel) (Nat.le_of_ble_eq_true rfl) rfl ?_
  refine nk_iload_n (i := 0) dX8_deep3_0 rfl rfl ?_
  refine nk_cSi kX8_190 (s_X8_rest) dX8_deep3_1 rfl rfl (by decide) (Nat.le_of_ble_eq_true rfl) ?_
  refine nk_istore_nT (i := 1) dX8_deep3_4 rfl (by decide) ?_
  refine nk_iload_n (i := 1) dX8_deep3_5 rfl rfl ?_
  refine nk_iconst (v := 1) dX8_deep3_6 (by decide) ?_
  refine nk_iconst (v := 2) dX8_deep3_7 (by decide) ?_
  refine nk_cSi kX8_193 (s_X8_highs (N := 4) (by decide) (by decide)) dX8_deep3_8 rfl rfl (by decide) (Nat.le_of_ble_eq_true rfl) ?_
  refine nk_cSi kX8_211 (s_X8_deep2) dX8_deep3_11 rfl rfl (by decide) (Nat.le_of_ble_eq_true rfl) ?_
  refine nk_istore_nT (i := 2) dX8_deep3_14 rfl (by decide) ?_
  refine nk_iload_n (i := 0) dX8_deep3_15 rfl rfl ?_
  refine nk_ifne (tgt := 23) dX8_deep3_16 (by decide) (fun h16 => ?_) (fun h16 => ?_)
  · skip
    refine nk_iconst (v := 1) dX8_deep3_23 (by decide) ?_
    refine nk_iload_n (i := 2) dX8_deep3_24 rfl rfl ?_
    refine nk_iload_n (i := 1) dX8_deep3_25 rfl rfl ?_
    refine nk_ifne (tgt := 33) dX8_deep3_26 (by decide) (fun h26 => ?_) (fun h26 => ?_)
    · skip
      refine nk_iconst (v := 1) dX8_deep3_33 (by decide) ?_
      refine nk_cSi kX8_214 (s_X8_more) dX8_deep3_34 rfl rfl (by decide) (Nat.le_of_ble_eq_true rfl) ?_
      refine nk_iadd dX8_deep3_37 ?_
      refine nk_ireturn dX8_deep3_38 rfl ?_
      first
      | exact ⟨by unfold pf_d3; rw [if_pos h16], rfl⟩
      | exact ⟨by unfold pf_d3 pf_n1; rw [if_neg h16, if_pos h26], rfl⟩
      | exact ⟨by unfold pf_d3 pf_n1; rw [if_neg h16, if_neg h26], rfl⟩
    · skip
      refine nk_iconst (v := 0) dX8_deep3_29 (by decide) ?_
      refine nk_goto (tgt := 34) dX8_deep3_30 (by decide) ?_
      refine nk_cSi kX8_214 (s_X8_more) dX8_deep3_34 rfl rfl (by decide) (Nat.le_of_ble_eq_true rfl) ?_
      refine nk_iadd dX8_deep3_37 ?_
      refine nk_ireturn dX8_deep3_38 rfl ?_
      first
      | exact ⟨by unfold pf_d3; rw [if_pos h16], rfl⟩
      | exact ⟨by unfold pf_d3 pf_n1; rw [if_neg h16, if_pos h26], rfl⟩
      | exact ⟨by unfold pf_d3 pf_n1; rw [if_neg h16, if_neg h26], rfl⟩
  · skip
    refine nk_iconst (v := 0) dX8_deep3_19 (by decide) ?_
    refine nk_goto (tgt := 38) dX8_deep3_20 (by decide) ?_
    refine nk_ireturn dX8_deep3_38 rfl ?_
    first
    | exact ⟨by unfold pf_d3; rw [if_pos h16], rfl⟩
    | exact ⟨by unfold pf_d3 pf_n1; rw [if_neg h16, if_pos h26], rfl⟩
    | exact ⟨by unfold pf_d3 pf_n1; rw [if_neg h16, if_neg h26], rfl⟩
set_option maxRecDepth 20000 in
theorem l_X8_deep4 {G : nk_EG} {x : Int32} {H : nk_AH} : ∀ (n : Nat) (k : Nat) (h1 : k ≤ 4) (h2 : 4 < k + n), nk_J G mX8_deep4 3 (nk_ri (pf_d4 x) H) 0 0 17 [some (.int x), some (.int (pf_rest x)), some (.int (pf_mxa (pf_d2 (pf_highs (pf_rest x) 2 4)) (fun y => pf_d2 (pf_part (pf_rest x) (nI y) 2)) k)), some (.int (nI k))] [] H := by
  intro n
  induction n with
  | zero => intro k h1 h2; omega
  | succ n ih =>
    intro k h1 h2
    refine nk_iload_n (i := 3) dX8_deep4_17 rfl rfl ?_
    refine nk_iconst (v := 4) dX8_deep4_18 (by decide) ?_
    refine nk_icmpge (tgt := 42) dX8_deep4_19 (by decide) (fun h19 => ?_) (fun h19 => ?_)
    · skip
      have e2 : k = 4 := Nat.le_antisymm h1 (nk_leI (a := 4) h19 (by omega) (by omega))
      subst e2
      refine nk_iload_n (i := 0) dX8_deep4_42 rfl rfl ?_
      refine nk_ifne (tgt := 50) dX8_deep4_43 (by decide) (fun h43 => ?_) (fun h43 => ?_)
      · skip
        refine nk_iconst (v := 1) dX8_deep4_50 (by decide) ?_
        refine nk_iload_n (i := 2) dX8_deep4_51 rfl rfl ?_
        refine nk_iadd dX8_deep4_52 ?_
        refine nk_ireturn dX8_deep4_53 rfl ?_
        first
        | exact ⟨by unfold pf_d4; rw [if_pos h43], rfl⟩
        | exact ⟨by unfold pf_d4; rw [if_neg h43], rfl⟩
      · skip
        refine nk_iconst (v := 0) dX8_deep4_46 (by decide) ?_
        refine nk_goto (tgt := 53) dX8_deep4_47 (by decide) ?_
        refine nk_ireturn dX8_deep4_53 rfl ?_
        first
        | exact ⟨by unfold pf_d4; rw [if_pos h43], rfl⟩
        | exact ⟨by unfold pf_d4; rw [if_neg h43], rfl⟩
    · skip
      refine nk_iload_n (i := 2) dX8_deep4_22 rfl rfl ?_
      refine nk_iload_n (i := 1) dX8_deep4_23 rfl rfl ?_
      refine nk_iload_n (i := 3) dX8_deep4_24 rfl rfl ?_
      refine nk_iconst (v := 2) dX8_deep4_25 (by decide) ?_
      refine nk_cSi kX8_186 (s_X8_part) dX8_deep4_26 rfl rfl (by decide) (Nat.le_of_ble_eq_true rfl) ?_
      refine nk_cSi kX8_211 (s_X8_deep2) dX8_deep4_29 rfl rfl (by decide) (Nat.le_of_ble_eq_true rfl) ?_
      refine nk_cSi kX8_214 (s_X8_more) dX8_deep4_32 rfl rfl (by decide) (Nat.le_of_ble_eq_true rfl) ?_
      refine nk_istore_nT (i := 2) dX8_deep4_35 rfl (by decide) ?_
      refine nk_iincT dX8_deep4_36 rfl (nk_i1 k) (by decide) ?_
      refine nk_goto (tgt := 17) dX8_deep4_39 (by decide) ?_
      exact ih (k + 1) (by have := nk_nleI (a := 4) h19 (by omega) (by omega); omega) (by omega)
set_option maxRecDepth 20000 in
theorem s_X8_deep4 {G : nk_EG} {x : Int32} {H : nk_AH} : nk_Si G mX8_deep4 3 [.int x] H (pf_d4 x) H := by
  refine nk_S.of (by decide +kernel) (Nat.le_of_ble_eq_true rfl) rfl ?_
  refine nk_iload_n (i := 0) dX8_deep4_0 rfl rfl ?_
  refine nk_cSi kX8_190 (s_X8_rest) dX8_deep4_1 rfl rfl (by decide) (Nat.le_of_ble_eq_true rfl) ?_
  refine nk_istore_nT (i := 1) dX8_deep4_4 rfl (by decide) ?_
  refine nk_iload_n (i := 1) dX8_deep4_5 rfl rfl ?_
  refine nk_iconst (v := 2) dX8_deep4_6 (by decide) ?_
  refine nk_iconst (v := 2) dX8_deep4_7 (by decide) ?_
  refine nk_cSi kX8_193 (s_X8_highs (N := 4) (by decide) (by decide)) dX8_deep4_8 rfl rfl (by decide) (Nat.le_of_ble_eq_true rfl) ?_
  refine nk_cSi kX8_211 (s_X8_deep2) dX8_deep4_11 rfl rfl (by decide) (Nat.le_of_ble_eq_true rfl) ?_
  refine nk_istore_nT (i := 2) dX8_deep4_14 rfl (by decide) ?_
  refine nk_iconst (v := 0) dX8_deep4_15 (by decide) ?_
  refine nk_istore_nT (i := 3) dX8_deep4_16 rfl (by decide) ?_
  exact l_X8_deep4 5 0 (by omega) (by omega)
set_option maxRecDepth 20000 in
theorem l_X8_deep5 {G : nk_EG} {x : Int32} {H : nk_AH} : ∀ (n : Nat) (k : Nat) (h1 : k ≤ 8) (h2 : 8 < k + n), nk_J G mX8_deep5 4 (nk_ri (pf_d5 x) H) 0 0 17 [some (.int x), some (.int (pf_rest x)), some (.int (pf_mxa (pf_d3 (pf_highs (pf_rest x) 2 8)) (fun y => pf_d2 (pf_part (pf_rest x) (nI y) 2)) k)), some (.int (nI k))] [] H := by
  intro n
  induction n with
  | zero => intro k h1 h2; omega
  | succ n ih =>
    intro k h1 h2
    refine nk_iload_n (i := 3) dX8_deep5_17 rfl rfl ?_
    refine nk_bipush (v := 8) dX8_deep5_18 (by decide) ?_
    refine nk_icmpge (tgt := 43) dX8_deep5_20 (by decide) (fun h20 => ?_) (fun h20 => ?_)
    · skip
      have e2 : k = 8 := Nat.le_antisymm h1 (nk_leI (a := 8) h20 (by omega) (by omega))
      subst e2
      refine nk_iload_n (i := 0) dX8_deep5_43 rfl rfl ?_
      refine nk_ifne (tgt := 51) dX8_deep5_44 (by decide) (fun h44 => ?_) (fun h44 => ?_)
      · skip
        refine nk_iconst (v := 1) dX8_deep5_51 (by decide) ?_
        refine nk_iload_n (i := 2) dX8_deep5_52 rfl rfl ?_
        refine nk_iadd dX8_deep5_53 ?_
        refine nk_ireturn dX8_deep5_54 rfl ?_
        first
        | exact ⟨by unfold pf_d5; rw [if_pos h44], rfl⟩
        | exact ⟨by unfold pf_d5; rw [if_neg h44], rfl⟩
      · skip
        refine nk_iconst (v := 0) dX8_deep5_47 (by decide) ?_
        refine nk_goto (tgt := 54) dX8_deep5_48 (by decide) ?_
        refine nk_ireturn dX8_deep5_54 rfl ?_
        first
        | exact ⟨by unfold pf_d5; rw [if_pos h44], rfl⟩
        | exact ⟨by unfold pf_d5; rw [if_neg h44], rfl⟩
    · skip
      refine nk_iload_n (i := 2) dX8_deep5_23 rfl rfl ?_
      refine nk_iload_n (i := 1) dX8_deep5_24 rfl rfl ?_
      refine nk_iload_n (i := 3) dX8_deep5_25 rfl rfl ?_
      refine nk_iconst (v := 2) dX8_deep5_26 (by decide) ?_
      refine nk_cSi kX8_186 (s_X8_part) dX8_deep5_27 rfl rfl (by decide) (Nat.le_of_ble_eq_true rfl) ?_
      refine nk_cSi kX8_211 (s_X8_deep2) dX8_deep5_30 rfl rfl (by decide) (Nat.le_of_ble_eq_true rfl) ?_
      refine nk_cSi kX8_214 (s_X8_more) dX8_deep5_33 rfl rfl (by decide) (Nat.le_of_ble_eq_true rfl) ?_
      refine nk_istore_nT (i := 2) dX8_deep5_36 rfl (by decide) ?_
      refine nk_iincT dX8_deep5_37 rfl (nk_i1 k) (by decide) ?_
      refine nk_goto (tgt := 17) dX8_deep5_40 (by decide) ?_
      exact ih (k + 1) (by have := nk_nleI (a := 8) h20 (by omega) (by omega); omega) (by omega)
set_option maxRecDepth 20000 in
theorem s_X8_deep5 {G : nk_EG} {x : Int32} {H : nk_AH} : nk_Si G mX8_deep5 4 [.int x] H (pf_d5 x) H := by
  refine nk_S.of (by decide +kernel) (Nat.le_of_ble_eq_true rfl) rfl ?_
  refine nk_iload_n (i := 0) dX8_deep5_0 rfl rfl ?_
  refine nk_cSi kX8_190 (s_X8_rest) dX8_deep5_1 rfl rfl (by decide) (Nat.le_of_ble_eq_true rfl) ?_
  refine nk_istore_nT (i := 1) dX8_deep5_4 rfl (by decide) ?_
  refine nk_iload_n (i := 1) dX8_deep5_5 rfl rfl ?_
  refine nk_iconst (v := 2) dX8_deep5_6 (by decide) ?_
  refine nk_iconst (v := 3) dX8_deep5_7 (by decide) ?_
  refine nk_cSi kX8_193 (s_X8_highs (N := 8) (by decide) (by decide)) dX8_deep5_8 rfl rfl (by decide) (Nat.le_of_ble_eq_true rfl) ?_
  refine nk_cSi kX8_217 (s_X8_deep3) dX8_deep5_11 rfl rfl (by decide) (Nat.le_of_ble_eq_true rfl) ?_
  refine nk_istore_nT (i := 2) dX8_deep5_14 rfl (by decide) ?_
  refine nk_iconst (v := 0) dX8_deep5_15 (by decide) ?_
  refine nk_istore_nT (i := 3) dX8_deep5_16 rfl (by decide) ?_
  exact l_X8_deep5 9 0 (by omega) (by omega)
set_option maxRecDepth 20000 in
theorem s_X8_deepOf {G : nk_EG} {x b : Int32} {H : nk_AH} : nk_Si G mX8_deepOf 5 [.int x, .int b] H (pf_dp x b) H := by
  refine nk_S.of (by decide +kernel) (Nat.le_of_ble_eq_true rfl) rfl ?_
  refine nk_iload_n (i := 1) dX8_deepOf_0 rfl rfl ?_
  refine nk_iconst (v := 1) dX8_deepOf_1 (by decide) ?_
  refine nk_icmpne (tgt := 12) dX8_deepOf_2 (by decide) (fun h2 => ?_) (fun h2 => ?_)
  · skip
    refine nk_iload_n (i := 1) dX8_deepOf_12 rfl rfl ?_
    refine nk_iconst (v := 2) dX8_deepOf_13 (by decide) ?_
    refine nk_icmpne (tgt := 24) dX8_deepOf_14 (by decide) (fun h14 => ?_) (fun h14 => ?_)
    · skip
      refine nk_iload_n (i := 1) dX8_deepOf_24 rfl rfl ?_
      refine nk_iconst (v := 3) dX8_deepOf_25 (by decide) ?_
      refine nk_icmpne (tgt := 36) dX8_deepOf_26 (by decide) (fun h26 => ?_) (fun h26 => ?_)
      · skip
        refine nk_iload_n (i := 1) dX8_deepOf_36 rfl rfl ?_
        refine nk_iconst (v := 4) dX8_deepOf_37 (by decide) ?_
        refine nk_icmpne (tgt := 48) dX8_deepOf_38 (by decide) (fun h38 => ?_) (fun h38 => ?_)
        · skip
          refine nk_iload_n (i := 0) dX8_deepOf_48 rfl rfl ?_
          refine nk_cSi kX8_223 (s_X8_deep5) dX8_deepOf_49 rfl rfl (by decide) (Nat.le_of_ble_eq_true rfl) ?_
          refine nk_ireturn dX8_deepOf_52 rfl ?_
          first
          | exact ⟨by unfold pf_dp; rw [if_pos h2], rfl⟩
          | exact ⟨by unfold pf_dp; rw [if_neg h2, if_pos h14], rfl⟩
          | exact ⟨by unfold pf_dp; rw [if_neg h2, if_neg h14, if_pos h26], rfl⟩
          | exact ⟨by unfold pf_dp; rw [if_neg h2, if_neg h14, if_neg h26, if_pos h38], rfl⟩
          | exact ⟨by unfold pf_dp; rw [if_neg h2, if_neg h14, if_neg h26, if_neg h38], rfl⟩
        · skip
          refine nk_iload_n (i := 0) dX8_deepOf_41 rfl rfl ?_
          refine nk_cSi kX8_220 (s_X8_deep4) dX8_deepOf_42 rfl rfl (by decide) (Nat.le_of_ble_eq_true rfl) ?_
          refine nk_goto (tgt := 52) dX8_deepOf_45 (by decide) ?_
          refine nk_ireturn dX8_deepOf_52 rfl ?_
          first
          | exact ⟨by unfold pf_dp; rw [if_pos h2], rfl⟩
          | exact ⟨by unfold pf_dp; rw [if_neg h2, if_pos h14], rfl⟩
          | exact ⟨by unfold pf_dp; rw [if_neg h2, if_neg h14, if_pos h26], rfl⟩
          | exact ⟨by unfold pf_dp; rw [if_neg h2, if_neg h14, if_neg h26, if_pos h38], rfl⟩
          | exact ⟨by unfold pf_dp; rw [if_neg h2, if_neg h14, if_neg h26, if_neg h38], rfl⟩
      · skip
        refine nk_iload_n (i := 0) dX8_deepOf_29 rfl rfl ?_
        refine nk_cSi kX8_217 (s_X8_deep3) dX8_deepOf_30 rfl rfl (by decide) (Nat.le_of_ble_eq_true rfl) ?_
        refine nk_goto (tgt := 52) dX8_deepOf_33 (by decide) ?_
        refine nk_ireturn dX8_deepOf_52 rfl ?_
        first
        | exact ⟨by unfold pf_dp; rw [if_pos h2], rfl⟩
        | exact ⟨by unfold pf_dp; rw [if_neg h2, if_pos h14], rfl⟩
        | exact ⟨by unfold pf_dp; rw [if_neg h2, if_neg h14, if_pos h26], rfl⟩
        | exact ⟨by unfold pf_dp; rw [if_neg h2, if_neg h14, if_neg h26, if_pos h38], rfl⟩
        | exact ⟨by unfold pf_dp; rw [if_neg h2, if_neg h14, if_neg h26, if_neg h38], rfl⟩
    · skip
      refine nk_iload_n (i := 0) dX8_deepOf_17 rfl rfl ?_
      refine nk_cSi kX8_211 (s_X8_deep2) dX8_deepOf_18 rfl rfl (by decide) (Nat.le_of_ble_eq_true rfl) ?_
      refine nk_goto (tgt := 52) dX8_deepOf_21 (by decide) ?_
      refine nk_ireturn dX8_deepOf_52 rfl ?_
      first
      | exact ⟨by unfold pf_dp; rw [if_pos h2], rfl⟩
      | exact ⟨by unfold pf_dp; rw [if_neg h2, if_pos h14], rfl⟩
      | exact ⟨by unfold pf_dp; rw [if_neg h2, if_neg h14, if_pos h26], rfl⟩
      | exact ⟨by unfold pf_dp; rw [if_neg h2, if_neg h14, if_neg h26, if_pos h38], rfl⟩
      | exact ⟨by unfold pf_dp; rw [if_neg h2, if_neg h14, if_neg h26, if_neg h38], rfl⟩
  · skip
    refine nk_iload_n (i := 0) dX8_deepOf_5 rfl rfl ?_
    refine nk_cSi kX8_196 (s_X8_nodes1) dX8_deepOf_6 rfl rfl (by decide) (Nat.le_of_ble_eq_true rfl) ?_
    refine nk_goto (tgt := 52) dX8_deepOf_9 (by decide) ?_
    refine nk_ireturn dX8_deepOf_52 rfl ?_
    first
    | exact ⟨by unfold pf_dp; rw [if_pos h2], rfl⟩
    | exact ⟨by unfold pf_dp; rw [if_neg h2, if_pos h14], rfl⟩
    | exact ⟨by unfold pf_dp; rw [if_neg h2, if_neg h14, if_pos h26], rfl⟩
    | exact ⟨by unfold pf_dp; rw [if_neg h2, if_neg h14, if_neg h26, if_pos h38], rfl⟩
    | exact ⟨by unfold pf_dp; rw [if_neg h2, if_neg h14, if_neg h26, if_neg h38], rfl⟩
set_option maxRecDepth 20000 in
theorem s_X8_nodeTells {G : nk_EG} {x b y : Int32} {H : nk_AH} : nk_Si G mX8_nodeTells 7 [.int x, .int b, .int y] H (pf_tells x b y) H := by
  refine nk_S.of (by decide +kernel) (Nat.le_of_ble_eq_true rfl) rfl ?_
  refine nk_iload_n (i := 2) dX8_nodeTells_0 rfl rfl ?_
  refine nk_ifne (tgt := 11) dX8_nodeTells_1 (by decide) (fun h1 => ?_) (fun h1 => ?_)
  · skip
    refine nk_iload_n (i := 2) dX8_nodeTells_11 rfl rfl ?_
    refine nk_iconst (v := 1) dX8_nodeTells_12 (by decide) ?_
    refine nk_icmpne (tgt := 23) dX8_nodeTells_13 (by decide) (fun h13 => ?_) (fun h13 => ?_)
    · skip
      refine nk_iload_n (i := 0) dX8_nodeTells_23 rfl rfl ?_
      refine nk_iload_n (i := 1) dX8_nodeTells_24 rfl rfl ?_
      refine nk_cSi kX8_238 (s_X8_nodesOf) dX8_nodeTells_25 rfl rfl (by decide) (Nat.le_of_ble_eq_true rfl) ?_
      refine nk_ireturn dX8_nodeTells_28 rfl ?_
      first
      | exact ⟨by unfold pf_tells; rw [if_pos h1], rfl⟩
      | exact ⟨by unfold pf_tells; rw [if_neg h1, if_pos h13], rfl⟩
      | exact ⟨by unfold pf_tells; rw [if_neg h1, if_neg h13], rfl⟩
    · skip
      refine nk_iload_n (i := 0) dX8_nodeTells_16 rfl rfl ?_
      refine nk_cSi kX8_247 (s_X8_greatestBit) dX8_nodeTells_17 rfl rfl (by decide) (Nat.le_of_ble_eq_true rfl) ?_
      refine nk_goto (tgt := 28) dX8_nodeTells_20 (by decide) ?_
      refine nk_ireturn dX8_nodeTells_28 rfl ?_
      first
      | exact ⟨by unfold pf_tells; rw [if_pos h1], rfl⟩
      | exact ⟨by unfold pf_tells; rw [if_neg h1, if_pos h13], rfl⟩
      | exact ⟨by unfold pf_tells; rw [if_neg h1, if_neg h13], rfl⟩
  · skip
    refine nk_iload_n (i := 0) dX8_nodeTells_4 rfl rfl ?_
    refine nk_cSi kX8_244 (s_X8_leastBit) dX8_nodeTells_5 rfl rfl (by decide) (Nat.le_of_ble_eq_true rfl) ?_
    refine nk_goto (tgt := 28) dX8_nodeTells_8 (by decide) ?_
    refine nk_ireturn dX8_nodeTells_28 rfl ?_
    first
    | exact ⟨by unfold pf_tells; rw [if_pos h1], rfl⟩
    | exact ⟨by unfold pf_tells; rw [if_neg h1, if_pos h13], rfl⟩
    | exact ⟨by unfold pf_tells; rw [if_neg h1, if_neg h13], rfl⟩

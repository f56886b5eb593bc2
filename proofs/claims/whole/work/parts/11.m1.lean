/-! the reference: helpers -/
set_option maxRecDepth 20000 in
theorem s_X8_in {G : nk_EG} {v l u : Int64} {H : nk_AH} : nk_Si G mX8_in 1 [.long v, .long l, .long u] H (if l.toInt ≤ v.toInt ∧ v.toInt ≤ u.toInt then 1 else 0) H := by
  refine nk_S.of (by decide +kernel) (Nat.le_of_ble_eq_true rfl) rfl ?_
  refine nk_lload_n (i := 0) dX8_in_0 rfl rfl ?_
  refine nk_lload_n (i := 2) dX8_in_1 rfl rfl ?_
  refine nk_lcmp dX8_in_2 ?_
  refine nk_iflt (tgt := 17) dX8_in_3 (by decide) (fun h3 => ?_) (fun h3 => ?_)
  · skip
    refine nk_iconst (v := 0) dX8_in_17 (by decide) ?_
    refine nk_zreturn dX8_in_18 rfl rfl ?_
    first
    | exact ⟨by rw [if_neg (fun q => absurd (Int64.le_iff_toInt_le.mpr q.1) (Int64.not_le.mpr ((lg_cmp_lt _ _).mp h3)))], rfl⟩
    | exact ⟨by rw [if_neg (fun q => absurd (Int64.le_iff_toInt_le.mpr q.2) (Int64.not_le.mpr ((lg_cmp_gt _ _).mp h10)))], rfl⟩
    | exact ⟨by rw [if_pos ⟨Int64.le_iff_toInt_le.mp (Int64.not_lt.mp (fun q => h3 ((lg_cmp_lt _ _).mpr q))), Int64.le_iff_toInt_le.mp (Int64.not_lt.mp (fun q => h10 ((lg_cmp_gt _ _).mpr q)))⟩], rfl⟩
  · skip
    refine nk_lload_n (i := 0) dX8_in_6 rfl rfl ?_
    refine nk_lload dX8_in_7 rfl ?_
    refine nk_lcmp dX8_in_9 ?_
    refine nk_ifgt (tgt := 17) dX8_in_10 (by decide) (fun h10 => ?_) (fun h10 => ?_)
    · skip
      refine nk_iconst (v := 0) dX8_in_17 (by decide) ?_
      refine nk_zreturn dX8_in_18 rfl rfl ?_
      first
      | exact ⟨by rw [if_neg (fun q => absurd (Int64.le_iff_toInt_le.mpr q.1) (Int64.not_le.mpr ((lg_cmp_lt _ _).mp h3)))], rfl⟩
      | exact ⟨by rw [if_neg (fun q => absurd (Int64.le_iff_toInt_le.mpr q.2) (Int64.not_le.mpr ((lg_cmp_gt _ _).mp h10)))], rfl⟩
      | exact ⟨by rw [if_pos ⟨Int64.le_iff_toInt_le.mp (Int64.not_lt.mp (fun q => h3 ((lg_cmp_lt _ _).mpr q))), Int64.le_iff_toInt_le.mp (Int64.not_lt.mp (fun q => h10 ((lg_cmp_gt _ _).mpr q)))⟩], rfl⟩
    · skip
      refine nk_iconst (v := 1) dX8_in_13 (by decide) ?_
      refine nk_goto (tgt := 18) dX8_in_14 (by decide) ?_
      refine nk_zreturn dX8_in_18 rfl rfl ?_
      first
      | exact ⟨by rw [if_neg (fun q => absurd (Int64.le_iff_toInt_le.mpr q.1) (Int64.not_le.mpr ((lg_cmp_lt _ _).mp h3)))], rfl⟩
      | exact ⟨by rw [if_neg (fun q => absurd (Int64.le_iff_toInt_le.mpr q.2) (Int64.not_le.mpr ((lg_cmp_gt _ _).mp h10)))], rfl⟩
      | exact ⟨by rw [if_pos ⟨Int64.le_iff_toInt_le.mp (Int64.not_lt.mp (fun q => h3 ((lg_cmp_lt _ _).mpr q))), Int64.le_iff_toInt_le.mp (Int64.not_lt.mp (fun q => h10 ((lg_cmp_gt _ _).mpr q)))⟩], rfl⟩
set_option maxRecDepth 20000 in
theorem s_X8_has {G : nk_EG} {x k : Int32} {H : nk_AH} : nk_Si G mX8_has 1 [.int x, .int k] H (if pf_bit x k = 1 then 1 else 0) H := by
  refine nk_S.of (by decide +kernel) (Nat.le_of_ble_eq_true rfl) rfl ?_
  refine nk_iload_n (i := 0) dX8_has_0 rfl rfl ?_
  refine nk_iload_n (i := 1) dX8_has_1 rfl rfl ?_
  refine nk_ishr dX8_has_2 ?_
  refine nk_iconst (v := 1) dX8_has_3 (by decide) ?_
  refine nk_iand dX8_has_4 ?_
  refine nk_iconst (v := 1) dX8_has_5 (by decide) ?_
  refine nk_icmpne (tgt := 13) dX8_has_6 (by decide) (fun h6 => ?_) (fun h6 => ?_)
  · skip
    refine nk_iconst (v := 0) dX8_has_13 (by decide) ?_
    refine nk_zreturn dX8_has_14 rfl rfl ?_
    first
    | exact ⟨by rw [if_pos (by assumption)], rfl⟩
    | exact ⟨by rw [if_neg (by assumption)], rfl⟩
  · skip
    refine nk_iconst (v := 1) dX8_has_9 (by decide) ?_
    refine nk_goto (tgt := 14) dX8_has_10 (by decide) ?_
    refine nk_zreturn dX8_has_14 rfl rfl ?_
    first
    | exact ⟨by rw [if_pos (by assumption)], rfl⟩
    | exact ⟨by rw [if_neg (by assumption)], rfl⟩
set_option maxRecDepth 20000 in
theorem l_X8_ones {G : nk_EG} {x : Int32} {H : nk_AH} : ∀ (n : Nat) (k : Nat) (h1 : k ≤ 32) (h2 : 32 < k + n), nk_J G mX8_ones 1 (nk_ri (pf_ones x 32) H) 0 0 4 [some (.int x), some (.int (pf_ones x k)), some (.int (nI k))] [] H := by
  intro n
  induction n with
  | zero => intro k h1 h2; omega
  | succ n ih =>
    intro k h1 h2
    refine nk_iload_n (i := 2) dX8_ones_4 rfl rfl ?_
    refine nk_bipush (v := 32) dX8_ones_5 (by decide) ?_
    refine nk_icmpge (tgt := 24) dX8_ones_7 (by decide) (fun h7 => ?_) (fun h7 => ?_)
    · skip
      refine nk_iload_n (i := 1) dX8_ones_24 rfl rfl ?_
      refine nk_ireturn dX8_ones_25 rfl ?_
      have hk := nk_leI (a := 32) h7 (by omega) (by omega)
      obtain rfl : k = 32 := by omega
      exact ⟨rfl, rfl⟩
    · skip
      refine nk_iload_n (i := 1) dX8_ones_10 rfl rfl ?_
      refine nk_iload_n (i := 0) dX8_ones_11 rfl rfl ?_
      refine nk_iload_n (i := 2) dX8_ones_12 rfl rfl ?_
      refine nk_ishr dX8_ones_13 ?_
      refine nk_iconst (v := 1) dX8_ones_14 (by decide) ?_
      refine nk_iand dX8_ones_15 ?_
      refine nk_iadd dX8_ones_16 ?_
      refine nk_istore_nT (i := 1) dX8_ones_17 rfl (by decide) ?_
      refine nk_iincT dX8_ones_18 rfl (nk_i1 k) (by decide) ?_
      refine nk_goto (tgt := 4) dX8_ones_21 (by decide) ?_
      exact ih (k + 1) (by have := nk_nleI (a := 32) h7 (by omega) (by omega); omega) (by omega)
set_option maxRecDepth 20000 in
theorem s_X8_ones {G : nk_EG} {x : Int32} {H : nk_AH} : nk_Si G mX8_ones 1 [.int x] H (nI (fb_ct (bt x) 32)) H := by
  rw [← pf_ones_ct x 32 (Nat.le_refl _)]
  refine nk_S.of (by decide +kernel) (Nat.le_of_ble_eq_true rfl) rfl ?_
  refine nk_iconst (v := 0) dX8_ones_0 (by decide) ?_
  refine nk_istore_nT (i := 1) dX8_ones_1 rfl (by decide) ?_
  refine nk_iconst (v := 0) dX8_ones_2 (by decide) ?_
  refine nk_istore_nT (i := 2) dX8_ones_3 rfl (by decide) ?_
  exact l_X8_ones 33 0 (by omega) (by omega)
set_option maxRecDepth 20000 in
theorem s_X8_isRow {G : nk_EG} {r : Int32} {H : nk_AH} : nk_Si G mX8_isRow 2 [.int r] H (if 0 ≤ r.toInt ∧ r.toInt ≤ 7 then 1 else 0) H := by
  refine nk_S.of (by decide +kernel) (Nat.le_of_ble_eq_true rfl) rfl ?_
  refine nk_iload_n (i := 0) dX8_isRow_0 rfl rfl ?_
  refine nk_i2l dX8_isRow_1 ?_
  refine nk_lconst (v := 0) dX8_isRow_2 rfl ?_
  refine nk_ldc2 qX8_37 dX8_isRow_3 ?_
  refine nk_cSi kX8_39 (s_X8_in) dX8_isRow_6 rfl rfl (by decide) (Nat.le_of_ble_eq_true rfl) ?_
  refine nk_zreturn dX8_isRow_9 rfl (nk_bn _) ?_
  exact ⟨by rw [Int32.toInt_toInt64]; rfl, rfl⟩
set_option maxRecDepth 20000 in
theorem s_X8_narrow {G : nk_EG} {v lane : Int32} {H : nk_AH} : nk_Si G mX8_narrow 1 [.int v, .int lane] H (pf_nar v lane) H := by
  refine nk_S.of (by decide +kernel) (Nat.le_of_ble_eq_true rfl) rfl ?_
  refine nk_iload_n (i := 1) dX8_narrow_0 rfl rfl ?_
  refine nk_ifne (tgt := 9) dX8_narrow_1 (by decide) (fun h1 => ?_) (fun h1 => ?_)
  · skip
    refine nk_iload_n (i := 1) dX8_narrow_9 rfl rfl ?_
    refine nk_iconst (v := 1) dX8_narrow_10 (by decide) ?_
    refine nk_icmpne (tgt := 19) dX8_narrow_11 (by decide) (fun h11 => ?_) (fun h11 => ?_)
    · skip
      refine nk_iload_n (i := 0) dX8_narrow_19 rfl rfl ?_
      refine nk_ireturn dX8_narrow_20 rfl ?_
      first
      | exact ⟨by unfold pf_nar; rw [if_neg (by assumption), if_neg (by assumption)], rfl⟩
      | exact ⟨by unfold pf_nar; rw [if_neg (by assumption), if_pos (by assumption)], rfl⟩
      | exact ⟨by unfold pf_nar; rw [if_pos (by assumption)], rfl⟩
    · skip
      refine nk_iload_n (i := 0) dX8_narrow_14 rfl rfl ?_
      refine nk_i2s dX8_narrow_15 ?_
      refine nk_goto (tgt := 20) dX8_narrow_16 (by decide) ?_
      refine nk_ireturn dX8_narrow_20 rfl ?_
      first
      | exact ⟨by unfold pf_nar; rw [if_neg (by assumption), if_neg (by assumption)], rfl⟩
      | exact ⟨by unfold pf_nar; rw [if_neg (by assumption), if_pos (by assumption)], rfl⟩
      | exact ⟨by unfold pf_nar; rw [if_pos (by assumption)], rfl⟩
  · skip
    refine nk_iload_n (i := 0) dX8_narrow_4 rfl rfl ?_
    refine nk_i2b dX8_narrow_5 ?_
    refine nk_goto (tgt := 20) dX8_narrow_6 (by decide) ?_
    refine nk_ireturn dX8_narrow_20 rfl ?_
    first
    | exact ⟨by unfold pf_nar; rw [if_neg (by assumption), if_neg (by assumption)], rfl⟩
    | exact ⟨by unfold pf_nar; rw [if_neg (by assumption), if_pos (by assumption)], rfl⟩
    | exact ⟨by unfold pf_nar; rw [if_pos (by assumption)], rfl⟩
set_option maxRecDepth 20000 in
theorem s_X8_find {G : nk_EG} {ad : Nat → Nat} {A : Nat → Nat → Int32} {I : Nat → Int32} (hi : mInj ad) {x : Int32} : nk_Si G mX8_find 1 [.ref (ad 0), .int x] (mh ad A I) (-1000010 - x) (mh ad A (va_up I 3 x)) := by
  refine nk_S.of (by decide +kernel) (Nat.le_of_ble_eq_true rfl) rfl ?_
  refine nk_aload_n (i := 0) dX8_find_0 rfl rfl ?_
  refine nk_iload_n (i := 1) dX8_find_1 rfl rfl ?_
  refine nk_putf pX8_32 dX8_find_2 mh_0 rfl rfl (Nat.le_of_ble_eq_true rfl) rfl ?_
  refine nk_J.to ?_ rfl rfl mu_I3
  refine nk_ldc qX8_36 dX8_find_5 ?_
  refine nk_iload_n (i := 1) dX8_find_7 rfl rfl ?_
  refine nk_isub dX8_find_8 ?_
  refine nk_ireturn dX8_find_9 rfl ?_
  exact ⟨rfl, rfl⟩
set_option maxRecDepth 20000 in
theorem s_X8_well {G : nk_EG} {ad : Nat → Nat} {A : Nat → Nat → Int32} {I : Nat → Int32} (hi : mInj ad) {x : Int32} : nk_Si G mX8_well 1 [.ref (ad 0), .int x] (mh ad A I) (x) (mh ad A (va_up I 3 0)) := by
  refine nk_S.of (by decide +kernel) (Nat.le_of_ble_eq_true rfl) rfl ?_
  refine nk_aload_n (i := 0) dX8_well_0 rfl rfl ?_
  refine nk_iconst (v := 0) dX8_well_1 (by decide) ?_
  refine nk_putf pX8_32 dX8_well_2 mh_0 rfl rfl (Nat.le_of_ble_eq_true rfl) rfl ?_
  refine nk_J.to ?_ rfl rfl mu_I3
  refine nk_iload_n (i := 1) dX8_well_5 rfl rfl ?_
  refine nk_ireturn dX8_well_6 rfl ?_
  exact ⟨rfl, rfl⟩
set_option maxRecDepth 20000 in
theorem s_X8_isShelf {G : nk_EG} {ad : Nat → Nat} {A : Nat → Nat → Int32} {I : Nat → Int32} (hi : mInj ad) {b : Nat} (hb : A 0 1 = nI b) (h10 : b ≤ 10) : nk_Si G mX8_isShelf 1 [.ref (ad 0)] (mh ad A I) (if 0 < b then 1 else 0) (mh ad A I) := by
  refine nk_S.of (by decide +kernel) (Nat.le_of_ble_eq_true rfl) rfl ?_
  refine nk_aload_n (i := 0) dX8_isShelf_0 rfl rfl ?_
  refine nk_getf fX8_7 dX8_isShelf_1 mh_0 rfl ?_
  refine nk_iconst (v := 1) dX8_isShelf_4 (by decide) ?_
  refine nk_ialdN (j := 1) dX8_isShelf_5 (mh_1 hi) (rfl) (by omega) (by decide) ?_
  rw [hb]
  refine nk_ifle (tgt := 13) dX8_isShelf_6 (by decide) (fun h6 => ?_) (fun h6 => ?_)
  · skip
    refine nk_iconst (v := 0) dX8_isShelf_13 (by decide) ?_
    refine nk_zreturn dX8_isShelf_14 rfl rfl ?_
    first
    | exact ⟨by rw [if_pos (nk_npos h6)], rfl⟩
    | exact ⟨by rw [if_neg (fun q => nI_nle q (by omega) h6)], rfl⟩
  · skip
    refine nk_iconst (v := 1) dX8_isShelf_9 (by decide) ?_
    refine nk_goto (tgt := 14) dX8_isShelf_10 (by decide) ?_
    refine nk_zreturn dX8_isShelf_14 rfl rfl ?_
    first
    | exact ⟨by rw [if_pos (nk_npos h6)], rfl⟩
    | exact ⟨by rw [if_neg (fun q => nI_nle q (by omega) h6)], rfl⟩
set_option maxRecDepth 20000 in
theorem s_X8_top {G : nk_EG} {ad : Nat → Nat} {A : Nat → Nat → Int32} {I : Nat → Int32} (hi : mInj ad) {b : Nat} (hb : A 0 1 = nI b) (h10 : b ≤ 10) : nk_Si G mX8_top 2 [.ref (ad 0)] (mh ad A I) (nI (nk_tp b)) (mh ad A I) := by
  refine nk_S.of (by decide +kernel) (Nat.le_of_ble_eq_true rfl) rfl ?_
  refine nk_aload_n (i := 0) dX8_top_0 rfl rfl ?_
  refine nk_cVi kX8_124 (s_X8_isShelf hi hb h10) dX8_top_1 mh_0 rfl rfl (by decide) (Nat.le_of_ble_eq_true rfl) ?_
  refine nk_ifeq (tgt := 18) dX8_top_4 (by decide) (fun h4 => ?_) (fun h4 => ?_)
  · skip
    rw [nk_b0] at h4
    refine nk_iconst (v := 0) dX8_top_18 (by decide) ?_
    refine nk_ireturn dX8_top_19 rfl ?_
    first
    | exact ⟨by rw [show b = 0 by omega]; rfl, rfl⟩
    | exact ⟨by rw [nk_sh1 (by omega), nk_tp_pos (by omega)], rfl⟩
  · skip
    rw [nk_b0] at h4
    refine nk_iconst (v := 1) dX8_top_7 (by decide) ?_
    refine nk_aload_n (i := 0) dX8_top_8 rfl rfl ?_
    refine nk_getf fX8_7 dX8_top_9 mh_0 rfl ?_
    refine nk_iconst (v := 1) dX8_top_12 (by decide) ?_
    refine nk_ialdN (j := 1) dX8_top_13 (mh_1 hi) (rfl) (by omega) (by decide) ?_
    rw [hb]
    refine nk_ishl dX8_top_14 ?_
    refine nk_goto (tgt := 19) dX8_top_15 (by decide) ?_
    refine nk_ireturn dX8_top_19 rfl ?_
    first
    | exact ⟨by rw [show b = 0 by omega]; rfl, rfl⟩
    | exact ⟨by rw [nk_sh1 (by omega), nk_tp_pos (by omega)], rfl⟩
set_option maxRecDepth 20000 in
theorem s_X8_isSet {G : nk_EG} {ad : Nat → Nat} {A : Nat → Nat → Int32} {I : Nat → Int32} (hi : mInj ad) {m : Nat} {s : Int32} (hm : A 0 0 = nI m) (h4 : m ≤ 4) : nk_Si G mX8_isSet 2 [.ref (ad 0), .int s] (mh ad A I) (if 0 ≤ s.toInt ∧ s.toInt < m then 1 else 0) (mh ad A I) := by
  refine nk_S.of (by decide +kernel) (Nat.le_of_ble_eq_true rfl) rfl ?_
  refine nk_iload_n (i := 1) dX8_isSet_0 rfl rfl ?_
  refine nk_i2l dX8_isSet_1 ?_
  refine nk_lconst (v := 0) dX8_isSet_2 rfl ?_
  refine nk_aload_n (i := 0) dX8_isSet_3 rfl rfl ?_
  refine nk_getf fX8_7 dX8_isSet_4 mh_0 rfl ?_
  refine nk_iconst (v := 0) dX8_isSet_7 (by decide) ?_
  refine nk_ialdN (j := 0) dX8_isSet_8 (mh_1 hi) (rfl) (by omega) (by decide) ?_
  rw [hm]
  refine nk_iconst (v := 1) dX8_isSet_9 (by decide) ?_
  refine nk_isub dX8_isSet_10 ?_
  refine nk_i2l dX8_isSet_11 ?_
  refine nk_cSi kX8_39 (s_X8_in) dX8_isSet_12 rfl rfl (by decide) (Nat.le_of_ble_eq_true rfl) ?_
  refine nk_zreturn dX8_isSet_15 rfl (nk_bn _) ?_
  refine ⟨?_, rfl⟩
  rw [Int32.toInt_toInt64, Int32.toInt_toInt64, nk_m1 (by omega), show (0 : Int64).toInt = 0 from rfl]
  exact nk_ifc ⟨fun q => ⟨q.1, by omega⟩, fun q => ⟨q.1, by omega⟩⟩
set_option maxRecDepth 20000 in
theorem s_X8_isKey {G : nk_EG} {ad : Nat → Nat} {A : Nat → Nat → Int32} {I : Nat → Int32} (hi : mInj ad) {b : Nat} {x : Int64} (hb : A 0 1 = nI b) (h10 : b ≤ 10) : nk_Si G mX8_isKey 3 [.ref (ad 0), .long x] (mh ad A I) (if 0 ≤ x.toInt ∧ x.toInt < nk_tp b then 1 else 0) (mh ad A I) := by
  refine nk_S.of (by decide +kernel) (Nat.le_of_ble_eq_true rfl) rfl ?_
  refine nk_lload_n (i := 1) dX8_isKey_0 rfl rfl ?_
  refine nk_lconst (v := 0) dX8_isKey_1 rfl ?_
  refine nk_aload_n (i := 0) dX8_isKey_2 rfl rfl ?_
  refine nk_cVi kX8_127 (s_X8_top hi hb h10) dX8_isKey_3 mh_0 rfl rfl (by decide) (Nat.le_of_ble_eq_true rfl) ?_
  refine nk_iconst (v := 1) dX8_isKey_6 (by decide) ?_
  refine nk_isub dX8_isKey_7 ?_
  refine nk_i2l dX8_isKey_8 ?_
  refine nk_cSi kX8_39 (s_X8_in) dX8_isKey_9 rfl rfl (by decide) (Nat.le_of_ble_eq_true rfl) ?_
  refine nk_zreturn dX8_isKey_12 rfl (nk_bn _) ?_
  refine ⟨?_, rfl⟩
  have ht := nk_tp_le h10
  rw [Int32.toInt_toInt64, nk_m1 (by omega), show (0 : Int64).toInt = 0 from rfl]
  exact nk_ifc ⟨fun q => ⟨q.1, by omega⟩, fun q => ⟨q.1, by omega⟩⟩
set_option maxRecDepth 20000 in
theorem s_X8_hasKey {G : nk_EG} {ad : Nat → Nat} {A : Nat → Nat → Int32} {I : Nat → Int32} (hi : mInj ad) {base s k : Nat} (h : base + 6 + 32 * s + k / 32 < 3752) (hk : k < 2 ^ 31) : nk_Si G mX8_hasKey 2 [.ref (ad 0), .int (nI base), .int (nI s), .int (nI k)] (mh ad A I) (if nk_mem (A 0) base s k = true then 1 else 0) (mh ad A I) := by
  refine nk_S.of (by decide +kernel) (Nat.le_of_ble_eq_true rfl) rfl ?_
  refine nk_aload_n (i := 0) dX8_hasKey_0 rfl rfl ?_
  refine nk_getf fX8_7 dX8_hasKey_1 mh_0 rfl ?_
  refine nk_iload_n (i := 1) dX8_hasKey_4 rfl rfl ?_
  refine nk_bipush (v := 6) dX8_hasKey_5 (by decide) ?_
  refine nk_iadd dX8_hasKey_7 ?_
  refine nk_bipush (v := 32) dX8_hasKey_8 (by decide) ?_
  refine nk_iload_n (i := 2) dX8_hasKey_10 rfl rfl ?_
  refine nk_imul dX8_hasKey_11 ?_
  refine nk_iadd dX8_hasKey_12 ?_
  refine nk_iload_n (i := 3) dX8_hasKey_13 rfl rfl ?_
  refine nk_bipush (v := 32) dX8_hasKey_14 (by decide) ?_
  refine nk_idiv dX8_hasKey_16 (by decide) ?_
  refine nk_iadd dX8_hasKey_17 ?_
  refine nk_ialdN (j := base + 6 + 32 * s + k / 32) dX8_hasKey_18 (mh_1 hi) (nk_ix base s hk) (by omega) (by decide) ?_
  refine nk_iload_n (i := 3) dX8_hasKey_19 rfl rfl ?_
  refine nk_bipush (v := 32) dX8_hasKey_20 (by decide) ?_
  refine nk_irem dX8_hasKey_22 (by decide) ?_
  refine nk_top (y := nI (k % 32)) (nk_r32 hk) ?_
  refine nk_cSi kX8_131 (s_X8_has) dX8_hasKey_23 rfl rfl (by decide) (Nat.le_of_ble_eq_true rfl) ?_
  refine nk_zreturn dX8_hasKey_26 rfl (nk_bn _) ?_
  exact ⟨nk_ifc (pf_bit_iff _ (Nat.mod_lt _ (by omega))), rfl⟩
set_option maxRecDepth 20000 in
theorem s_X8_turnKey {G : nk_EG} {ad : Nat → Nat} {A : Nat → Nat → Int32} {I : Nat → Int32} (hi : mInj ad) {base s k : Nat} (h : base + 6 + 32 * s + k / 32 < 3752) (hk : k < 2 ^ 31) : nk_Sv G mX8_turnKey 1 [.ref (ad 0), .int (nI base), .int (nI s), .int (nI k)] (mh ad A I) (mh ad (va_up A 0 (upd (A 0) (base + 6 + 32 * s + k / 32) (A 0 (base + 6 + 32 * s + k / 32) ^^^ pf_b1 (k % 32)))) I) := by
  refine nk_S.of (by decide +kernel) (Nat.le_of_ble_eq_true rfl) rfl ?_
  refine nk_aload_n (i := 0) dX8_turnKey_0 rfl rfl ?_
  refine nk_getf fX8_7 dX8_turnKey_1 mh_0 rfl ?_
  refine nk_iload_n (i := 1) dX8_turnKey_4 rfl rfl ?_
  refine nk_bipush (v := 6) dX8_turnKey_5 (by decide) ?_
  refine nk_iadd dX8_turnKey_7 ?_
  refine nk_bipush (v := 32) dX8_turnKey_8 (by decide) ?_
  refine nk_iload_n (i := 2) dX8_turnKey_10 rfl rfl ?_
  refine nk_imul dX8_turnKey_11 ?_
  refine nk_iadd dX8_turnKey_12 ?_
  refine nk_iload_n (i := 3) dX8_turnKey_13 rfl rfl ?_
  refine nk_bipush (v := 32) dX8_turnKey_14 (by decide) ?_
  refine nk_idiv dX8_turnKey_16 (by decide) ?_
  refine nk_iadd dX8_turnKey_17 ?_
  refine nk_dup2 dX8_turnKey_18 rfl rfl ?_
  refine nk_ialdN (j := base + 6 + 32 * s + k / 32) dX8_turnKey_19 (mh_1 hi) (nk_ix base s hk) (by omega) (by decide) ?_
  refine nk_iconst (v := 1) dX8_turnKey_20 (by decide) ?_
  refine nk_iload_n (i := 3) dX8_turnKey_21 rfl rfl ?_
  refine nk_bipush (v := 32) dX8_turnKey_22 (by decide) ?_
  refine nk_irem dX8_turnKey_24 (by decide) ?_
  refine nk_top (y := nI (k % 32)) (nk_r32 hk) ?_
  refine nk_ishl dX8_turnKey_25 ?_
  refine nk_ixor dX8_turnKey_26 ?_
  refine nk_iastN (j := base + 6 + 32 * s + k / 32) dX8_turnKey_27 (mh_1 hi) (nk_ix base s hk) (by omega) (by decide) ?_
  refine nk_J.to ?_ rfl rfl (mu_A0 hi)
  refine nk_vreturn dX8_turnKey_28 rfl ?_
  exact ⟨rfl, rfl⟩

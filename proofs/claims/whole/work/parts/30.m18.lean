/-! the reference: tokens of the tape -/
set_option maxRecDepth 20000 in
theorem s_X8_isLetter {G : nk_EG} {ad : Nat → Nat} {A : Nat → Nat → Int32} {I : Nat → Int32} (hi : mInj ad) {l : Nat} (hl : I 1 = nI l) (h110 : l ≤ 110) {a : Nat} (ha : I 5 = nI a) (hal : a ≤ l) {c : Int32} : nk_Si G mX8_isLetter 1 [.ref (ad 0), .int c] (mh ad A I) (if tp_is (A 5) l a c then 1 else 0) (mh ad A I) := by
  refine nk_S.of (by decide +kernel) (Nat.le_of_ble_eq_true rfl) rfl ?_
  refine nk_aload_n (i := 0) dX8_isLetter_0 rfl rfl ?_
  refine nk_getf fX8_71 dX8_isLetter_1 mh_0 rfl ?_
  refine nk_aload_n (i := 0) dX8_isLetter_4 rfl rfl ?_
  refine nk_getf fX8_67 dX8_isLetter_5 mh_0 rfl ?_
  rw [ha, hl]
  refine nk_icmpge (tgt := 28) dX8_isLetter_8 (by decide) (fun h8 => ?_) (fun h8 => ?_)
  · skip
    refine nk_iconst (v := 0) dX8_isLetter_28 (by decide) ?_
    refine nk_zreturn dX8_isLetter_29 rfl rfl ?_
    first
    | (refine ⟨nk_v1 ?_, rfl⟩
       exact ⟨hk, h21⟩)
    | (refine ⟨nk_v0 (fun z => ?_), rfl⟩
       first
       | exact h21 z.2
       | exact absurd z.1 (Nat.not_lt.mpr (nk_leI (a := l) h8 (by omega) (by omega))))
  · skip
    have hk := nk_nleI (a := l) h8 (by omega) (by omega)
    refine nk_aload_n (i := 0) dX8_isLetter_11 rfl rfl ?_
    refine nk_getf fX8_26 dX8_isLetter_12 mh_0 rfl ?_
    refine nk_aload_n (i := 0) dX8_isLetter_15 rfl rfl ?_
    refine nk_getf fX8_71 dX8_isLetter_16 mh_0 rfl ?_
    refine nk_ialdN (j := a) dX8_isLetter_19 (mh_6 hi) (ha) (by omega) (by decide) ?_
    refine nk_iload_n (i := 1) dX8_isLetter_20 rfl rfl ?_
    refine nk_icmpne (tgt := 28) dX8_isLetter_21 (by decide) (fun h21 => ?_) (fun h21 => ?_)
    · skip
      refine nk_iconst (v := 0) dX8_isLetter_28 (by decide) ?_
      refine nk_zreturn dX8_isLetter_29 rfl rfl ?_
      first
      | (refine ⟨nk_v1 ?_, rfl⟩
         exact ⟨hk, h21⟩)
      | (refine ⟨nk_v0 (fun z => ?_), rfl⟩
         first
         | exact h21 z.2
         | exact absurd z.1 (Nat.not_lt.mpr (nk_leI (a := l) h8 (by omega) (by omega))))
    · skip
      refine nk_iconst (v := 1) dX8_isLetter_24 (by decide) ?_
      refine nk_goto (tgt := 29) dX8_isLetter_25 (by decide) ?_
      refine nk_zreturn dX8_isLetter_29 rfl rfl ?_
      first
      | (refine ⟨nk_v1 ?_, rfl⟩
         exact ⟨hk, h21⟩)
      | (refine ⟨nk_v0 (fun z => ?_), rfl⟩
         first
         | exact h21 z.2
         | exact absurd z.1 (Nat.not_lt.mpr (nk_leI (a := l) h8 (by omega) (by omega))))
set_option maxRecDepth 20000 in
theorem s_X8_isFigure {G : nk_EG} {ad : Nat → Nat} {A : Nat → Nat → Int32} {I : Nat → Int32} (hi : mInj ad) {l : Nat} (hl : I 1 = nI l) (h110 : l ≤ 110) {i : Nat} (hi2 : i < 2000) : nk_Si G mX8_isFigure 2 [.ref (ad 0), .int (nI i)] (mh ad A I) (if tp_fig (A 5) l i = true then 1 else 0) (mh ad A I) := by
  refine nk_S.of (by decide +kernel) (Nat.le_of_ble_eq_true rfl) rfl ?_
  refine nk_iload_n (i := 1) dX8_isFigure_0 rfl rfl ?_
  refine nk_aload_n (i := 0) dX8_isFigure_1 rfl rfl ?_
  refine nk_getf fX8_67 dX8_isFigure_2 mh_0 rfl ?_
  rw [hl]
  refine nk_icmpge (tgt := 31) dX8_isFigure_5 (by decide) (fun h5 => ?_) (fun h5 => ?_)
  · skip
    refine nk_iconst (v := 0) dX8_isFigure_31 (by decide) ?_
    refine nk_zreturn dX8_isFigure_32 rfl rfl ?_
    first
    | (refine ⟨nk_v1 ?_, rfl⟩
       exact tp_fig_iff.mpr ⟨hk, h24⟩)
    | (refine ⟨nk_v0 (fun z => ?_), rfl⟩
       first
       | exact h24 (tp_fig_iff.mp z).2
       | exact absurd (tp_fig_iff.mp z).1 (Nat.not_lt.mpr (nk_leI (a := l) h5 (by omega) (by omega))))
  · skip
    have hk := nk_nleI (a := l) h5 (by omega) (by omega)
    refine nk_aload_n (i := 0) dX8_isFigure_8 rfl rfl ?_
    refine nk_getf fX8_26 dX8_isFigure_9 mh_0 rfl ?_
    refine nk_iload_n (i := 1) dX8_isFigure_12 rfl rfl ?_
    refine nk_ialdN (j := i) dX8_isFigure_13 (mh_6 hi) (rfl) (by omega) (by decide) ?_
    refine nk_i2l dX8_isFigure_14 ?_
    refine nk_ldc2 qX8_74 dX8_isFigure_15 ?_
    refine nk_ldc2 qX8_76 dX8_isFigure_18 ?_
    refine nk_cSi kX8_39 (s_X8_in) dX8_isFigure_21 rfl rfl (by decide) (Nat.le_of_ble_eq_true rfl) ?_
    refine nk_ifeq (tgt := 31) dX8_isFigure_24 (by decide) (fun h24 => ?_) (fun h24 => ?_)
    · skip
      simp only [nk_b0, Int32.toInt_toInt64, Classical.not_not, nk_l48, nk_l57] at h24
      refine nk_iconst (v := 0) dX8_isFigure_31 (by decide) ?_
      refine nk_zreturn dX8_isFigure_32 rfl rfl ?_
      first
      | (refine ⟨nk_v1 ?_, rfl⟩
         exact tp_fig_iff.mpr ⟨hk, h24⟩)
      | (refine ⟨nk_v0 (fun z => ?_), rfl⟩
         first
         | exact h24 (tp_fig_iff.mp z).2
         | exact absurd (tp_fig_iff.mp z).1 (Nat.not_lt.mpr (nk_leI (a := l) h5 (by omega) (by omega))))
    · skip
      simp only [nk_b0, Int32.toInt_toInt64, Classical.not_not, nk_l48, nk_l57] at h24
      refine nk_iconst (v := 1) dX8_isFigure_27 (by decide) ?_
      refine nk_goto (tgt := 32) dX8_isFigure_28 (by decide) ?_
      refine nk_zreturn dX8_isFigure_32 rfl rfl ?_
      first
      | (refine ⟨nk_v1 ?_, rfl⟩
         exact tp_fig_iff.mpr ⟨hk, h24⟩)
      | (refine ⟨nk_v0 (fun z => ?_), rfl⟩
         first
         | exact h24 (tp_fig_iff.mp z).2
         | exact absurd (tp_fig_iff.mp z).1 (Nat.not_lt.mpr (nk_leI (a := l) h5 (by omega) (by omega))))
set_option maxRecDepth 20000 in
theorem s_X8_refuse {G : nk_EG} {ad : Nat → Nat} {A : Nat → Nat → Int32} {I : Nat → Int32} (hi : mInj ad) {x : Int32} : nk_Si G mX8_refuse 1 [.ref (ad 0), .int x] (mh ad A I) (0) (mh ad A (va_up I 6 x)) := by
  refine nk_S.of (by decide +kernel) (Nat.le_of_ble_eq_true rfl) rfl ?_
  refine nk_aload_n (i := 0) dX8_refuse_0 rfl rfl ?_
  refine nk_iload_n (i := 1) dX8_refuse_1 rfl rfl ?_
  refine nk_putf pX8_78 dX8_refuse_2 mh_0 rfl rfl (Nat.le_of_ble_eq_true rfl) rfl ?_
  refine nk_J.to ?_ rfl rfl mu_I6
  refine nk_iconst (v := 0) dX8_refuse_5 (by decide) ?_
  refine nk_zreturn dX8_refuse_6 rfl rfl ?_
  exact ⟨rfl, rfl⟩
set_option maxRecDepth 20000 in
theorem s_X8_sign {G : nk_EG} {ad : Nat → Nat} {A : Nat → Nat → Int32} {I : Nat → Int32} (hi : mInj ad) {l : Nat} (hl : I 1 = nI l) (h110 : l ≤ 110) {a : Nat} (ha : I 5 = nI a) (hal : a ≤ l) {c : Int32} : nk_Si G mX8_sign 2 [.ref (ad 0), .int c] (mh ad A I) (if tp_is (A 5) l a c then 1 else 0) (mh ad A (if tp_is (A 5) l a c then va_up I 5 (nI (a + 1)) else va_up I 6 1)) := by
  refine nk_S.of (by decide +kernel) (Nat.le_of_ble_eq_true rfl) rfl ?_
  refine nk_aload_n (i := 0) dX8_sign_0 rfl rfl ?_
  refine nk_iload_n (i := 1) dX8_sign_1 rfl rfl ?_
  refine nk_cVi kX8_81 (s_X8_isLetter hi hl h110 ha hal) dX8_sign_2 mh_0 rfl rfl (by decide) (Nat.le_of_ble_eq_true rfl) ?_
  refine nk_ifne (tgt := 14) dX8_sign_5 (by decide) (fun h5 => ?_) (fun h5 => ?_)
  · skip
    simp only [nk_b0, Classical.not_not] at h5
    refine nk_aload_n (i := 0) dX8_sign_14 rfl rfl ?_
    refine nk_dup dX8_sign_15 rfl ?_
    refine nk_getf fX8_71 dX8_sign_16 mh_0 rfl ?_
    refine nk_iconst (v := 1) dX8_sign_19 (by decide) ?_
    refine nk_iadd dX8_sign_20 ?_
    refine nk_top (y := nI (a + 1)) (by rw [ha]; exact nI_1 a) ?_
    refine nk_putf pX8_71 dX8_sign_21 mh_0 rfl rfl (Nat.le_of_ble_eq_true rfl) rfl ?_
    refine nk_J.to ?_ rfl rfl mu_I5
    refine nk_iconst (v := 1) dX8_sign_24 (by decide) ?_
    refine nk_zreturn dX8_sign_25 rfl rfl ?_
    exact ⟨nk_v1 h5, by rw [if_pos h5]⟩
  · skip
    simp only [nk_b0, Classical.not_not] at h5
    refine nk_aload_n (i := 0) dX8_sign_8 rfl rfl ?_
    refine nk_iconst (v := 1) dX8_sign_9 (by decide) ?_
    refine nk_cVi kX8_84 (s_X8_refuse hi) dX8_sign_10 mh_0 rfl rfl (by decide) (Nat.le_of_ble_eq_true rfl) ?_
    refine nk_zreturn dX8_sign_13 rfl rfl ?_
    exact ⟨nk_v0 h5, by rw [if_neg h5]⟩
set_option maxRecDepth 20000 in
theorem s_X8_kindOfLetter {G : nk_EG} {x : Int32} {H : nk_AH} : nk_Si G mX8_kindOfLetter 1 [.int x] H (tp_kind x) H := by
  refine nk_S.of (by decide +kernel) (Nat.le_of_ble_eq_true rfl) rfl ?_
  refine nk_iload_n (i := 0) dX8_kindOfLetter_0 rfl rfl ?_
  refine nk_bipush (v := 97) dX8_kindOfLetter_1 (by decide) ?_
  refine nk_icmpne (tgt := 10) dX8_kindOfLetter_3 (by decide) (fun h3 => ?_) (fun h3 => ?_)
  · skip
    refine nk_iload_n (i := 0) dX8_kindOfLetter_10 rfl rfl ?_
    refine nk_bipush (v := 114) dX8_kindOfLetter_11 (by decide) ?_
    refine nk_icmpne (tgt := 20) dX8_kindOfLetter_13 (by decide) (fun h13 => ?_) (fun h13 => ?_)
    · skip
      refine nk_iload_n (i := 0) dX8_kindOfLetter_20 rfl rfl ?_
      refine nk_bipush (v := 99) dX8_kindOfLetter_21 (by decide) ?_
      refine nk_icmpne (tgt := 30) dX8_kindOfLetter_23 (by decide) (fun h23 => ?_) (fun h23 => ?_)
      · skip
        refine nk_iload_n (i := 0) dX8_kindOfLetter_30 rfl rfl ?_
        refine nk_bipush (v := 98) dX8_kindOfLetter_31 (by decide) ?_
        refine nk_icmpne (tgt := 40) dX8_kindOfLetter_33 (by decide) (fun h33 => ?_) (fun h33 => ?_)
        · skip
          refine nk_iload_n (i := 0) dX8_kindOfLetter_40 rfl rfl ?_
          refine nk_bipush (v := 100) dX8_kindOfLetter_41 (by decide) ?_
          refine nk_icmpne (tgt := 50) dX8_kindOfLetter_43 (by decide) (fun h43 => ?_) (fun h43 => ?_)
          · skip
            refine nk_iconst (v := 0) dX8_kindOfLetter_50 (by decide) ?_
            refine nk_ireturn dX8_kindOfLetter_51 rfl ?_
            first
            | exact ⟨by unfold tp_kind; rw [if_pos h3], rfl⟩
            | exact ⟨by unfold tp_kind; rw [if_neg h3, if_pos h13], rfl⟩
            | exact ⟨by unfold tp_kind; rw [if_neg h3, if_neg h13, if_pos h23], rfl⟩
            | exact ⟨by unfold tp_kind; rw [if_neg h3, if_neg h13, if_neg h23, if_pos h33], rfl⟩
            | exact ⟨by unfold tp_kind; rw [if_neg h3, if_neg h13, if_neg h23, if_neg h33, if_pos h43], rfl⟩
            | exact ⟨by unfold tp_kind; rw [if_neg h3, if_neg h13, if_neg h23, if_neg h33, if_neg h43], rfl⟩
          · skip
            refine nk_iconst (v := 5) dX8_kindOfLetter_46 (by decide) ?_
            refine nk_goto (tgt := 51) dX8_kindOfLetter_47 (by decide) ?_
            refine nk_ireturn dX8_kindOfLetter_51 rfl ?_
            first
            | exact ⟨by unfold tp_kind; rw [if_pos h3], rfl⟩
            | exact ⟨by unfold tp_kind; rw [if_neg h3, if_pos h13], rfl⟩
            | exact ⟨by unfold tp_kind; rw [if_neg h3, if_neg h13, if_pos h23], rfl⟩
            | exact ⟨by unfold tp_kind; rw [if_neg h3, if_neg h13, if_neg h23, if_pos h33], rfl⟩
            | exact ⟨by unfold tp_kind; rw [if_neg h3, if_neg h13, if_neg h23, if_neg h33, if_pos h43], rfl⟩
            | exact ⟨by unfold tp_kind; rw [if_neg h3, if_neg h13, if_neg h23, if_neg h33, if_neg h43], rfl⟩
        · skip
          refine nk_iconst (v := 4) dX8_kindOfLetter_36 (by decide) ?_
          refine nk_goto (tgt := 51) dX8_kindOfLetter_37 (by decide) ?_
          refine nk_ireturn dX8_kindOfLetter_51 rfl ?_
          first
          | exact ⟨by unfold tp_kind; rw [if_pos h3], rfl⟩
          | exact ⟨by unfold tp_kind; rw [if_neg h3, if_pos h13], rfl⟩
          | exact ⟨by unfold tp_kind; rw [if_neg h3, if_neg h13, if_pos h23], rfl⟩
          | exact ⟨by unfold tp_kind; rw [if_neg h3, if_neg h13, if_neg h23, if_pos h33], rfl⟩
          | exact ⟨by unfold tp_kind; rw [if_neg h3, if_neg h13, if_neg h23, if_neg h33, if_pos h43], rfl⟩
          | exact ⟨by unfold tp_kind; rw [if_neg h3, if_neg h13, if_neg h23, if_neg h33, if_neg h43], rfl⟩
      · skip
        refine nk_iconst (v := 3) dX8_kindOfLetter_26 (by decide) ?_
        refine nk_goto (tgt := 51) dX8_kindOfLetter_27 (by decide) ?_
        refine nk_ireturn dX8_kindOfLetter_51 rfl ?_
        first
        | exact ⟨by unfold tp_kind; rw [if_pos h3], rfl⟩
        | exact ⟨by unfold tp_kind; rw [if_neg h3, if_pos h13], rfl⟩
        | exact ⟨by unfold tp_kind; rw [if_neg h3, if_neg h13, if_pos h23], rfl⟩
        | exact ⟨by unfold tp_kind; rw [if_neg h3, if_neg h13, if_neg h23, if_pos h33], rfl⟩
        | exact ⟨by unfold tp_kind; rw [if_neg h3, if_neg h13, if_neg h23, if_neg h33, if_pos h43], rfl⟩
        | exact ⟨by unfold tp_kind; rw [if_neg h3, if_neg h13, if_neg h23, if_neg h33, if_neg h43], rfl⟩
    · skip
      refine nk_iconst (v := 2) dX8_kindOfLetter_16 (by decide) ?_
      refine nk_goto (tgt := 51) dX8_kindOfLetter_17 (by decide) ?_
      refine nk_ireturn dX8_kindOfLetter_51 rfl ?_
      first
      | exact ⟨by unfold tp_kind; rw [if_pos h3], rfl⟩
      | exact ⟨by unfold tp_kind; rw [if_neg h3, if_pos h13], rfl⟩
      | exact ⟨by unfold tp_kind; rw [if_neg h3, if_neg h13, if_pos h23], rfl⟩
      | exact ⟨by unfold tp_kind; rw [if_neg h3, if_neg h13, if_neg h23, if_pos h33], rfl⟩
      | exact ⟨by unfold tp_kind; rw [if_neg h3, if_neg h13, if_neg h23, if_neg h33, if_pos h43], rfl⟩
      | exact ⟨by unfold tp_kind; rw [if_neg h3, if_neg h13, if_neg h23, if_neg h33, if_neg h43], rfl⟩
  · skip
    refine nk_iconst (v := 1) dX8_kindOfLetter_6 (by decide) ?_
    refine nk_goto (tgt := 51) dX8_kindOfLetter_7 (by decide) ?_
    refine nk_ireturn dX8_kindOfLetter_51 rfl ?_
    first
    | exact ⟨by unfold tp_kind; rw [if_pos h3], rfl⟩
    | exact ⟨by unfold tp_kind; rw [if_neg h3, if_pos h13], rfl⟩
    | exact ⟨by unfold tp_kind; rw [if_neg h3, if_neg h13, if_pos h23], rfl⟩
    | exact ⟨by unfold tp_kind; rw [if_neg h3, if_neg h13, if_neg h23, if_pos h33], rfl⟩
    | exact ⟨by unfold tp_kind; rw [if_neg h3, if_neg h13, if_neg h23, if_neg h33, if_pos h43], rfl⟩
    | exact ⟨by unfold tp_kind; rw [if_neg h3, if_neg h13, if_neg h23, if_neg h33, if_neg h43], rfl⟩
set_option maxRecDepth 20000 in
theorem t_X8_readsNumber {G : nk_EG} {ad : Nat → Nat} {A : Nat → Nat → Int32} {I : Nat → Int32} (hi : mInj ad) {l : Nat} (hl : I 1 = nI l) (h110 : l ≤ 110) {a : Nat} (ha : I 5 = nI a) (hal : a ≤ l) {lo hi2 : Nat} (hlo : lo < 2000) (hhi : hi2 < 2000) (h1 : tp_one (A 5) l a) {z : Nat} (hz : a + z = tp_end (A 5) l a) : nk_J G mX8_readsNumber 3 (nk_ri (if tp_f (A 5) l a lo hi2 = 0 then 1 else 0) (mh ad A (if tp_one (A 5) l a then (if lo ≤ (tp_num (A 5) l a) ∧ (tp_num (A 5) l a) ≤ hi2 then va_up (va_up I 7 (nI (tp_num (A 5) l a))) 5 (nI (tp_end (A 5) l a)) else va_up (va_up I 7 (nI (tp_num (A 5) l a))) 6 2) else va_up I 6 1))) 0 0 116 [some (.ref (ad 0)), some (.int (nI lo)), some (.int (nI hi2)), some (.int (nI z))] [] (mh ad A (va_up I 7 (nI (tp_num (A 5) l a)))) := by
  have hn := tp_num_le h1
  have he := tp_end_le h1
  rw [if_pos h1]
  refine nk_aload_n (i := 0) dX8_readsNumber_116 rfl rfl ?_
  refine nk_getf fX8_90 dX8_readsNumber_117 mh_0 rfl ?_
  refine nk_i2l dX8_readsNumber_120 ?_
  refine nk_iload_n (i := 1) dX8_readsNumber_121 rfl rfl ?_
  refine nk_i2l dX8_readsNumber_122 ?_
  refine nk_iload_n (i := 2) dX8_readsNumber_123 rfl rfl ?_
  refine nk_i2l dX8_readsNumber_124 ?_
  refine nk_cSi kX8_39 (s_X8_in) dX8_readsNumber_125 rfl rfl (by decide) (Nat.le_of_ble_eq_true rfl) ?_
  refine nk_ifne (tgt := 137) dX8_readsNumber_128 (by decide) (fun h128 => ?_) (fun h128 => ?_)
  · skip
    rw [nk_b0, Int32.toInt_toInt64, Int32.toInt_toInt64, Int32.toInt_toInt64, show va_up I 7 (nI (tp_num (A 5) l a)) 7 = nI (tp_num (A 5) l a) from rfl, nI_toInt (by omega), nI_toInt (by omega), nI_toInt (by omega)] at h128
    refine nk_aload_n (i := 0) dX8_readsNumber_137 rfl rfl ?_
    refine nk_dup dX8_readsNumber_138 rfl ?_
    refine nk_getf fX8_71 dX8_readsNumber_139 mh_0 rfl ?_
    refine nk_iload_n (i := 3) dX8_readsNumber_142 rfl rfl ?_
    refine nk_iadd dX8_readsNumber_143 ?_
    refine nk_top (y := nI (tp_end (A 5) l a)) (by rw [show va_up I 7 (nI (tp_num (A 5) l a)) 5 = I 5 from rfl, ha, nI_add, hz]) ?_
    refine nk_putf pX8_71 dX8_readsNumber_144 mh_0 rfl rfl (Nat.le_of_ble_eq_true rfl) rfl ?_
    refine nk_J.to ?_ rfl rfl mu_I5
    refine nk_iconst (v := 1) dX8_readsNumber_147 (by decide) ?_
    refine nk_zreturn dX8_readsNumber_148 rfl rfl ?_
    have h128 := Classical.not_not.mp h128
    have c : lo ≤ (tp_num (A 5) l a) ∧ (tp_num (A 5) l a) ≤ hi2 := ⟨by omega, by omega⟩
    have hf : tp_f (A 5) l a lo hi2 = 0 := by unfold tp_f; rw [if_pos h1, if_pos c]
    exact ⟨nk_v1 hf, by rw [if_pos c]⟩
  · skip
    rw [nk_b0, Int32.toInt_toInt64, Int32.toInt_toInt64, Int32.toInt_toInt64, show va_up I 7 (nI (tp_num (A 5) l a)) 7 = nI (tp_num (A 5) l a) from rfl, nI_toInt (by omega), nI_toInt (by omega), nI_toInt (by omega)] at h128
    refine nk_aload_n (i := 0) dX8_readsNumber_131 rfl rfl ?_
    refine nk_iconst (v := 2) dX8_readsNumber_132 (by decide) ?_
    refine nk_cVi kX8_84 (s_X8_refuse hi) dX8_readsNumber_133 mh_0 rfl rfl (by decide) (Nat.le_of_ble_eq_true rfl) ?_
    refine nk_zreturn dX8_readsNumber_136 rfl rfl ?_
    have c : ¬ (lo ≤ (tp_num (A 5) l a) ∧ (tp_num (A 5) l a) ≤ hi2) := fun y => h128 ⟨by omega, by omega⟩
    have hf : ¬ tp_f (A 5) l a lo hi2 = 0 := by unfold tp_f; rw [if_pos h1, if_neg c]; decide
    exact ⟨nk_v0 hf, by rw [if_neg c]⟩
set_option maxRecDepth 20000 in
theorem s_X8_readsNumber {G : nk_EG} {ad : Nat → Nat} {A : Nat → Nat → Int32} {I : Nat → Int32} (hi : mInj ad) {l : Nat} (hl : I 1 = nI l) (h110 : l ≤ 110) {a : Nat} (ha : I 5 = nI a) (hal : a ≤ l) {lo hi2 : Nat} (hlo : lo < 2000) (hhi : hi2 < 2000) : nk_Si G mX8_readsNumber 3 [.ref (ad 0), .int (nI lo), .int (nI hi2)] (mh ad A I) (if tp_f (A 5) l a lo hi2 = 0 then 1 else 0) (mh ad A (if tp_one (A 5) l a then (if lo ≤ (tp_num (A 5) l a) ∧ (tp_num (A 5) l a) ≤ hi2 then va_up (va_up I 7 (nI (tp_num (A 5) l a))) 5 (nI (tp_end (A 5) l a)) else va_up (va_up I 7 (nI (tp_num (A 5) l a))) 6 2) else va_up I 6 1)) := by
  refine nk_S.of (by decide +kernel) (Nat.le_of_ble_eq_true rfl) rfl ?_
  refine nk_aload_n (i := 0) dX8_readsNumber_0 rfl rfl ?_
  refine nk_aload_n (i := 0) dX8_readsNumber_1 rfl rfl ?_
  refine nk_getf fX8_71 dX8_readsNumber_2 mh_0 rfl ?_
  refine nk_top (y := nI a) (ha) ?_
  refine nk_cVi kX8_87 (s_X8_isFigure hi hl h110 (i := a) (by omega)) dX8_readsNumber_5 mh_0 rfl rfl (by decide) (Nat.le_of_ble_eq_true rfl) ?_
  refine nk_ifeq (tgt := 37) dX8_readsNumber_8 (by decide) (fun h8 => ?_) (fun h8 => ?_)
  · skip
    simp only [nk_b0, Classical.not_not] at h8
    refine nk_aload_n (i := 0) dX8_readsNumber_37 rfl rfl ?_
    refine nk_iconst (v := 1) dX8_readsNumber_38 (by decide) ?_
    refine nk_cVi kX8_84 (s_X8_refuse hi) dX8_readsNumber_39 mh_0 rfl rfl (by decide) (Nat.le_of_ble_eq_true rfl) ?_
    refine nk_zreturn dX8_readsNumber_42 rfl rfl ?_
    have c : ¬ tp_one (A 5) l a := fun y => by
      first
      | exact absurd y.1 h8
      | exact y.2 ⟨h21, h34⟩
    have hf : ¬ tp_f (A 5) l a lo hi2 = 0 := by unfold tp_f; rw [if_neg c]; decide
    exact ⟨nk_v0 hf, by rw [if_neg c]⟩
  · skip
    simp only [nk_b0, Classical.not_not] at h8
    refine nk_aload_n (i := 0) dX8_readsNumber_11 rfl rfl ?_
    refine nk_aload_n (i := 0) dX8_readsNumber_12 rfl rfl ?_
    refine nk_getf fX8_71 dX8_readsNumber_13 mh_0 rfl ?_
    refine nk_iconst (v := 1) dX8_readsNumber_16 (by decide) ?_
    refine nk_iadd dX8_readsNumber_17 ?_
    refine nk_top (y := nI (a + 1)) (by rw [ha]; exact nI_1 a) ?_
    refine nk_cVi kX8_87 (s_X8_isFigure hi hl h110 (i := a + 1) (by omega)) dX8_readsNumber_18 mh_0 rfl rfl (by decide) (Nat.le_of_ble_eq_true rfl) ?_
    refine nk_ifeq (tgt := 43) dX8_readsNumber_21 (by decide) (fun h21 => ?_) (fun h21 => ?_)
    · skip
      simp only [nk_b0, Classical.not_not] at h21
      have h1 : tp_one (A 5) l a := ⟨h8, fun y => by
        first
        | exact absurd y.1 h21
        | exact absurd y.2 h34⟩
      have hf1 := tp_fig_iff.mp h8
      refine nk_aload_n (i := 0) dX8_readsNumber_43 rfl rfl ?_
      refine nk_aload_n (i := 0) dX8_readsNumber_44 rfl rfl ?_
      refine nk_getf fX8_26 dX8_readsNumber_45 mh_0 rfl ?_
      refine nk_aload_n (i := 0) dX8_readsNumber_48 rfl rfl ?_
      refine nk_getf fX8_71 dX8_readsNumber_49 mh_0 rfl ?_
      refine nk_ialdN (j := a) dX8_readsNumber_52 (mh_6 hi) (ha) (by omega) (by decide) ?_
      refine nk_bipush (v := 48) dX8_readsNumber_53 (by decide) ?_
      refine nk_isub dX8_readsNumber_55 ?_
      refine nk_top (y := nI ((A 5 a).toInt - 48).toNat) (nk_fg hf1.2) ?_
      refine nk_putf pX8_90 dX8_readsNumber_56 mh_0 rfl rfl (Nat.le_of_ble_eq_true rfl) rfl ?_
      refine nk_J.to ?_ rfl rfl mu_I7
      refine nk_aload_n (i := 0) dX8_readsNumber_59 rfl rfl ?_
      refine nk_aload_n (i := 0) dX8_readsNumber_60 rfl rfl ?_
      refine nk_getf fX8_71 dX8_readsNumber_61 mh_0 rfl ?_
      refine nk_iconst (v := 1) dX8_readsNumber_64 (by decide) ?_
      refine nk_iadd dX8_readsNumber_65 ?_
      refine nk_top (y := nI (a + 1)) (by rw [show va_up I 7 (nI ((A 5 a).toInt - 48).toNat) 5 = I 5 from rfl, ha]; exact nI_1 a) ?_
      refine nk_cVi kX8_87 (s_X8_isFigure hi (I := va_up I 7 (nI ((A 5 a).toInt - 48).toNat)) hl h110 (i := a + 1) (by omega)) dX8_readsNumber_66 mh_0 rfl rfl (by decide) (Nat.le_of_ble_eq_true rfl) ?_
      refine nk_ifeq (tgt := 76) dX8_readsNumber_69 (by decide) (fun h69 => ?_) (fun h69 => ?_)
      · skip
        simp only [nk_b0, Classical.not_not] at h69
        have hn : ((A 5 a).toInt - 48).toNat = tp_num (A 5) l a := by unfold tp_num; rw [if_neg h69]
        refine nk_iconst (v := 1) dX8_readsNumber_76 (by decide) ?_
        refine nk_istore_nT (i := 3) dX8_readsNumber_77 rfl (by decide) ?_
        refine nk_aload_n (i := 0) dX8_readsNumber_78 rfl rfl ?_
        refine nk_iload_n (i := 3) dX8_readsNumber_79 rfl rfl ?_
        refine nk_iconst (v := 2) dX8_readsNumber_80 (by decide) ?_
        refine nk_icmpne (tgt := 109) dX8_readsNumber_81 (by decide) (fun _ => ?_) (fun h81 => by first | exact absurd (by decide) h81 | exact absurd h81 (by decide))
        refine nk_aload_n (i := 0) dX8_readsNumber_109 rfl rfl ?_
        refine nk_getf fX8_90 dX8_readsNumber_110 mh_0 rfl ?_
        refine nk_top (y := nI (tp_num (A 5) l a)) (by rw [← hn]; rfl) ?_
        refine nk_putf pX8_90 dX8_readsNumber_113 mh_0 rfl rfl (Nat.le_of_ble_eq_true rfl) rfl ?_
        refine nk_J.to ?_ rfl rfl mu_I7
        exact (t_X8_readsNumber hi hl h110 ha hal hlo hhi h1 (z := 1) (by unfold tp_end; rw [if_neg h69])).to rfl rfl (by rw [bx_uu])
      · skip
        simp only [nk_b0, Classical.not_not] at h69
        have hf2 := tp_fig_iff.mp h69
        have hn : 10 * ((A 5 a).toInt - 48).toNat + ((A 5 (a + 1)).toInt - 48).toNat = tp_num (A 5) l a := by unfold tp_num; rw [if_pos h69]
        refine nk_iconst (v := 2) dX8_readsNumber_72 (by decide) ?_
        refine nk_goto (tgt := 77) dX8_readsNumber_73 (by decide) ?_
        refine nk_istore_nT (i := 3) dX8_readsNumber_77 rfl (by decide) ?_
        refine nk_aload_n (i := 0) dX8_readsNumber_78 rfl rfl ?_
        refine nk_iload_n (i := 3) dX8_readsNumber_79 rfl rfl ?_
        refine nk_iconst (v := 2) dX8_readsNumber_80 (by decide) ?_
        refine nk_icmpne (tgt := 109) dX8_readsNumber_81 (by decide) (fun h81 => by first | exact absurd h81 (rfl) | exact absurd (rfl) h81) (fun _ => ?_)
        refine nk_bipush (v := 10) dX8_readsNumber_84 (by decide) ?_
        refine nk_aload_n (i := 0) dX8_readsNumber_86 rfl rfl ?_
        refine nk_getf fX8_90 dX8_readsNumber_87 mh_0 rfl ?_
        refine nk_imul dX8_readsNumber_90 ?_
        refine nk_aload_n (i := 0) dX8_readsNumber_91 rfl rfl ?_
        refine nk_getf fX8_26 dX8_readsNumber_92 mh_0 rfl ?_
        refine nk_aload_n (i := 0) dX8_readsNumber_95 rfl rfl ?_
        refine nk_getf fX8_71 dX8_readsNumber_96 mh_0 rfl ?_
        refine nk_iconst (v := 1) dX8_readsNumber_99 (by decide) ?_
        refine nk_iadd dX8_readsNumber_100 ?_
        refine nk_ialdN (j := a + 1) dX8_readsNumber_101 (mh_6 hi) (by rw [show va_up I 7 (nI ((A 5 a).toInt - 48).toNat) 5 = I 5 from rfl, ha]; exact nI_1 a) (by omega) (by decide) ?_
        refine nk_iadd dX8_readsNumber_102 ?_
        refine nk_bipush (v := 48) dX8_readsNumber_103 (by decide) ?_
        refine nk_isub dX8_readsNumber_105 ?_
        refine nk_goto (tgt := 113) dX8_readsNumber_106 (by decide) ?_
        refine nk_top (y := nI (tp_num (A 5) l a)) ((nk_fg2 hf1.2 hf2.2).trans (by rw [hn])) ?_
        refine nk_putf pX8_90 dX8_readsNumber_113 mh_0 rfl rfl (Nat.le_of_ble_eq_true rfl) rfl ?_
        refine nk_J.to ?_ rfl rfl mu_I7
        exact (t_X8_readsNumber hi hl h110 ha hal hlo hhi h1 (z := 2) (by unfold tp_end; rw [if_pos h69])).to rfl rfl (by rw [bx_uu])
    · skip
      simp only [nk_b0, Classical.not_not] at h21
      refine nk_aload_n (i := 0) dX8_readsNumber_24 rfl rfl ?_
      refine nk_aload_n (i := 0) dX8_readsNumber_25 rfl rfl ?_
      refine nk_getf fX8_71 dX8_readsNumber_26 mh_0 rfl ?_
      refine nk_iconst (v := 2) dX8_readsNumber_29 (by decide) ?_
      refine nk_iadd dX8_readsNumber_30 ?_
      refine nk_top (y := nI (a + 2)) (by rw [ha]; exact nI_add a 2) ?_
      refine nk_cVi kX8_87 (s_X8_isFigure hi hl h110 (i := a + 2) (by omega)) dX8_readsNumber_31 mh_0 rfl rfl (by decide) (Nat.le_of_ble_eq_true rfl) ?_
      refine nk_ifeq (tgt := 43) dX8_readsNumber_34 (by decide) (fun h34 => ?_) (fun h34 => ?_)
      · skip
        simp only [nk_b0, Classical.not_not] at h34
        have h1 : tp_one (A 5) l a := ⟨h8, fun y => by
          first
          | exact absurd y.1 h21
          | exact absurd y.2 h34⟩
        have hf1 := tp_fig_iff.mp h8
        refine nk_aload_n (i := 0) dX8_readsNumber_43 rfl rfl ?_
        refine nk_aload_n (i := 0) dX8_readsNumber_44 rfl rfl ?_
        refine nk_getf fX8_26 dX8_readsNumber_45 mh_0 rfl ?_
        refine nk_aload_n (i := 0) dX8_readsNumber_48 rfl rfl ?_
        refine nk_getf fX8_71 dX8_readsNumber_49 mh_0 rfl ?_
        refine nk_ialdN (j := a) dX8_readsNumber_52 (mh_6 hi) (ha) (by omega) (by decide) ?_
        refine nk_bipush (v := 48) dX8_readsNumber_53 (by decide) ?_
        refine nk_isub dX8_readsNumber_55 ?_
        refine nk_top (y := nI ((A 5 a).toInt - 48).toNat) (nk_fg hf1.2) ?_
        refine nk_putf pX8_90 dX8_readsNumber_56 mh_0 rfl rfl (Nat.le_of_ble_eq_true rfl) rfl ?_
        refine nk_J.to ?_ rfl rfl mu_I7
        refine nk_aload_n (i := 0) dX8_readsNumber_59 rfl rfl ?_
        refine nk_aload_n (i := 0) dX8_readsNumber_60 rfl rfl ?_
        refine nk_getf fX8_71 dX8_readsNumber_61 mh_0 rfl ?_
        refine nk_iconst (v := 1) dX8_readsNumber_64 (by decide) ?_
        refine nk_iadd dX8_readsNumber_65 ?_
        refine nk_top (y := nI (a + 1)) (by rw [show va_up I 7 (nI ((A 5 a).toInt - 48).toNat) 5 = I 5 from rfl, ha]; exact nI_1 a) ?_
        refine nk_cVi kX8_87 (s_X8_isFigure hi (I := va_up I 7 (nI ((A 5 a).toInt - 48).toNat)) hl h110 (i := a + 1) (by omega)) dX8_readsNumber_66 mh_0 rfl rfl (by decide) (Nat.le_of_ble_eq_true rfl) ?_
        refine nk_ifeq (tgt := 76) dX8_readsNumber_69 (by decide) (fun h69 => ?_) (fun h69 => ?_)
        · skip
          simp only [nk_b0, Classical.not_not] at h69
          have hn : ((A 5 a).toInt - 48).toNat = tp_num (A 5) l a := by unfold tp_num; rw [if_neg h69]
          refine nk_iconst (v := 1) dX8_readsNumber_76 (by decide) ?_
          refine nk_istore_nT (i := 3) dX8_readsNumber_77 rfl (by decide) ?_
          refine nk_aload_n (i := 0) dX8_readsNumber_78 rfl rfl ?_
          refine nk_iload_n (i := 3) dX8_readsNumber_79 rfl rfl ?_
          refine nk_iconst (v := 2) dX8_readsNumber_80 (by decide) ?_
          refine nk_icmpne (tgt := 109) dX8_readsNumber_81 (by decide) (fun _ => ?_) (fun h81 => by first | exact absurd (by decide) h81 | exact absurd h81 (by decide))
          refine nk_aload_n (i := 0) dX8_readsNumber_109 rfl rfl ?_
          refine nk_getf fX8_90 dX8_readsNumber_110 mh_0 rfl ?_
          refine nk_top (y := nI (tp_num (A 5) l a)) (by rw [← hn]; rfl) ?_
          refine nk_putf pX8_90 dX8_readsNumber_113 mh_0 rfl rfl (Nat.le_of_ble_eq_true rfl) rfl ?_
          refine nk_J.to ?_ rfl rfl mu_I7
          exact (t_X8_readsNumber hi hl h110 ha hal hlo hhi h1 (z := 1) (by unfold tp_end; rw [if_neg h69])).to rfl rfl (by rw [bx_uu])
        · skip
          simp only [nk_b0, Classical.not_not] at h69
          have hf2 := tp_fig_iff.mp h69
          have hn : 10 * ((A 5 a).toInt - 48).toNat + ((A 5 (a + 1)).toInt - 48).toNat = tp_num (A 5) l a := by unfold tp_num; rw [if_pos h69]
          refine nk_iconst (v := 2) dX8_readsNumber_72 (by decide) ?_
          refine nk_goto (tgt := 77) dX8_readsNumber_73 (by decide) ?_
          refine nk_istore_nT (i := 3) dX8_readsNumber_77 rfl (by decide) ?_
          refine nk_aload_n (i := 0) dX8_readsNumber_78 rfl rfl ?_
          refine nk_iload_n (i := 3) dX8_readsNumber_79 rfl rfl ?_
          refine nk_iconst (v := 2) dX8_readsNumber_80 (by decide) ?_
          refine nk_icmpne (tgt := 109) dX8_readsNumber_81 (by decide) (fun h81 => by first | exact absurd h81 (rfl) | exact absurd (rfl) h81) (fun _ => ?_)
          refine nk_bipush (v := 10) dX8_readsNumber_84 (by decide) ?_
          refine nk_aload_n (i := 0) dX8_readsNumber_86 rfl rfl ?_
          refine nk_getf fX8_90 dX8_readsNumber_87 mh_0 rfl ?_
          refine nk_imul dX8_readsNumber_90 ?_
          refine nk_aload_n (i := 0) dX8_readsNumber_91 rfl rfl ?_
          refine nk_getf fX8_26 dX8_readsNumber_92 mh_0 rfl ?_
          refine nk_aload_n (i := 0) dX8_readsNumber_95 rfl rfl ?_
          refine nk_getf fX8_71 dX8_readsNumber_96 mh_0 rfl ?_
          refine nk_iconst (v := 1) dX8_readsNumber_99 (by decide) ?_
          refine nk_iadd dX8_readsNumber_100 ?_
          refine nk_ialdN (j := a + 1) dX8_readsNumber_101 (mh_6 hi) (by rw [show va_up I 7 (nI ((A 5 a).toInt - 48).toNat) 5 = I 5 from rfl, ha]; exact nI_1 a) (by omega) (by decide) ?_
          refine nk_iadd dX8_readsNumber_102 ?_
          refine nk_bipush (v := 48) dX8_readsNumber_103 (by decide) ?_
          refine nk_isub dX8_readsNumber_105 ?_
          refine nk_goto (tgt := 113) dX8_readsNumber_106 (by decide) ?_
          refine nk_top (y := nI (tp_num (A 5) l a)) ((nk_fg2 hf1.2 hf2.2).trans (by rw [hn])) ?_
          refine nk_putf pX8_90 dX8_readsNumber_113 mh_0 rfl rfl (Nat.le_of_ble_eq_true rfl) rfl ?_
          refine nk_J.to ?_ rfl rfl mu_I7
          exact (t_X8_readsNumber hi hl h110 ha hal hlo hhi h1 (z := 2) (by unfold tp_end; rw [if_pos h69])).to rfl rfl (by rw [bx_uu])
      · skip
        simp only [nk_b0, Classical.not_not] at h34
        refine nk_aload_n (i := 0) dX8_readsNumber_37 rfl rfl ?_
        refine nk_iconst (v := 1) dX8_readsNumber_38 (by decide) ?_
        refine nk_cVi kX8_84 (s_X8_refuse hi) dX8_readsNumber_39 mh_0 rfl rfl (by decide) (Nat.le_of_ble_eq_true rfl) ?_
        refine nk_zreturn dX8_readsNumber_42 rfl rfl ?_
        have c : ¬ tp_one (A 5) l a := fun y => by
          first
          | exact absurd y.1 h8
          | exact y.2 ⟨h21, h34⟩
        have hf : ¬ tp_f (A 5) l a lo hi2 = 0 := by unfold tp_f; rw [if_neg c]; decide
        exact ⟨nk_v0 hf, by rw [if_neg c]⟩

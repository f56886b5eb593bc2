/-! the reference: gathers, images, bytes, the trace, asks, counts -/
set_option maxRecDepth 20000 in
theorem s_X8_feed {G : nk_EG} {ad : Nat → Nat} {A : Nat → Nat → Int32} {I : Nat → Int32} (hi : mInj ad) {l : Nat} {x : Int32} (hl : I 1 = nI l) (h110 : l ≤ 110) : nk_Si G mX8_feed 2 [.ref (ad 0), .int x] (mh ad A I) (sp_feed I l x) (mh ad (a_feed l x A) (i_feed l x I)) := by
  refine nk_S.of (by decide +kernel) (Nat.le_of_ble_eq_true rfl) rfl ?_
  refine nk_iload_n (i := 1) dX8_feed_0 rfl rfl ?_
  refine nk_i2l dX8_feed_1 ?_
  refine nk_lconst (v := 0) dX8_feed_2 rfl ?_
  refine nk_ldc2 qX8_65 dX8_feed_3 ?_
  refine nk_cSi kX8_39 (s_X8_in) dX8_feed_6 rfl rfl (by decide) (Nat.le_of_ble_eq_true rfl) ?_
  refine nk_ifne (tgt := 15) dX8_feed_9 (by decide) (fun h9 => ?_) (fun h9 => ?_)
  · skip
    try simp only [nk_b0, Int32.toInt_toInt64, Classical.not_not, nk_l0, nk_l1, nk_l2, nk_l3, nk_l5, nk_l9, nk_l9m, nk_l40, nk_l255] at h9
    refine nk_aload_n (i := 0) dX8_feed_15 rfl rfl ?_
    refine nk_getf fX8_67 dX8_feed_16 mh_0 rfl ?_
    refine nk_bipush (v := 110) dX8_feed_19 (by decide) ?_
    rw [hl]
    refine nk_icmpne (tgt := 27) dX8_feed_21 (by decide) (fun h21 => ?_) (fun h21 => ?_)
    · skip
      have hne : ¬ l = 110 := fun z => h21 (by rw [z]; rfl)
      have cc : sp_R x 0 255 ∧ ¬ l = 110 := ⟨h9, hne⟩
      unfold sp_feed a_feed i_feed
      rw [if_pos h9, if_neg hne, if_pos cc, if_pos cc]
      refine nk_aload_n (i := 0) dX8_feed_27 rfl rfl ?_
      refine nk_getf fX8_26 dX8_feed_28 mh_0 rfl ?_
      refine nk_aload_n (i := 0) dX8_feed_31 rfl rfl ?_
      refine nk_getf fX8_67 dX8_feed_32 mh_0 rfl ?_
      refine nk_iload_n (i := 1) dX8_feed_35 rfl rfl ?_
      refine nk_iastN (j := l) dX8_feed_36 (mh_6 hi) (hl) (by omega) (by decide) ?_
      refine nk_J.to ?_ rfl rfl (mu_A5 hi)
      refine nk_aload_n (i := 0) dX8_feed_37 rfl rfl ?_
      refine nk_dup dX8_feed_38 rfl ?_
      refine nk_getf fX8_67 dX8_feed_39 mh_0 rfl ?_
      refine nk_iconst (v := 1) dX8_feed_42 (by decide) ?_
      refine nk_iadd dX8_feed_43 ?_
      refine nk_top (y := nI (l + 1)) (by rw [hl]; exact nI_1 l) ?_
      refine nk_putf pX8_67 dX8_feed_44 mh_0 rfl rfl (Nat.le_of_ble_eq_true rfl) rfl ?_
      refine nk_J.to ?_ rfl rfl mu_I1
      refine nk_aload_n (i := 0) dX8_feed_47 rfl rfl ?_
      refine nk_getf fX8_67 dX8_feed_48 mh_0 rfl ?_
      refine nk_ireturn dX8_feed_51 rfl ?_
      exact ⟨rfl, rfl⟩
    · skip
      refine nk_ldc qX8_70 dX8_feed_24 ?_
      refine nk_ireturn dX8_feed_26 rfl ?_
      have e1 : l = 110 := nk_eqI (b := 110) h21 (by omega) (by omega)
      have cc : ¬ (sp_R x 0 255 ∧ ¬ l = 110) := fun z => z.2 e1
      exact ⟨by unfold sp_feed; rw [if_pos h9, if_pos e1], by unfold a_feed i_feed; rw [if_neg cc, if_neg cc]⟩
  · skip
    try simp only [nk_b0, Int32.toInt_toInt64, Classical.not_not, nk_l0, nk_l1, nk_l2, nk_l3, nk_l5, nk_l9, nk_l9m, nk_l40, nk_l255] at h9
    refine nk_ldc qX8_49 dX8_feed_12 ?_
    refine nk_ireturn dX8_feed_14 rfl ?_
    have cc : ¬ (sp_R x 0 255 ∧ ¬ l = 110) := fun z => h9 z.1
    exact ⟨by unfold sp_feed; rw [if_neg h9], by unfold a_feed i_feed; rw [if_neg cc, if_neg cc]⟩
set_option maxRecDepth 20000 in
theorem s_X8_trace {G : nk_EG} {ad : Nat → Nat} {A : Nat → Nat → Int32} {I : Nat → Int32} (hi : mInj ad) {t : Nat} (hT : I 4 = nI t) (h16 : t ≤ 16) {i : Int32} : nk_Si G mX8_trace 2 [.ref (ad 0), .int i] (mh ad A I) (sp_trace (A 6) t i) (mh ad A I) := by
  refine nk_S.of (by decide +kernel) (Nat.le_of_ble_eq_true rfl) rfl ?_
  refine nk_iload_n (i := 1) dX8_trace_0 rfl rfl ?_
  refine nk_i2l dX8_trace_1 ?_
  refine nk_lconst (v := 0) dX8_trace_2 rfl ?_
  refine nk_aload_n (i := 0) dX8_trace_3 rfl rfl ?_
  refine nk_getf fX8_313 dX8_trace_4 mh_0 rfl ?_
  refine nk_iconst (v := 1) dX8_trace_7 (by decide) ?_
  refine nk_isub dX8_trace_8 ?_
  refine nk_i2l dX8_trace_9 ?_
  refine nk_cSi kX8_39 (s_X8_in) dX8_trace_10 rfl rfl (by decide) (Nat.le_of_ble_eq_true rfl) ?_
  refine nk_ifeq (tgt := 25) dX8_trace_13 (by decide) (fun h13 => ?_) (fun h13 => ?_)
  · skip
    simp only [nk_b0, Int32.toInt_toInt64, Classical.not_not, nk_l0] at h13; rw [hT, nk_m1 (by omega)] at h13
    refine nk_ldc qX8_140 dX8_trace_25 ?_
    refine nk_ireturn dX8_trace_27 rfl ?_
    have c : ¬ (0 ≤ i.toInt ∧ i.toInt < t) := fun z => h13 ⟨z.1, by omega⟩
    exact ⟨by unfold sp_trace; rw [if_neg c], rfl⟩
  · skip
    simp only [nk_b0, Int32.toInt_toInt64, Classical.not_not, nk_l0] at h13; rw [hT, nk_m1 (by omega)] at h13
    have c : 0 ≤ i.toInt ∧ i.toInt < t := ⟨h13.1, by omega⟩
    obtain ⟨j, hj, rfl⟩ := nk_getN c
    unfold sp_trace
    rw [if_pos c, sp_n_nI (by omega)]
    refine nk_aload_n (i := 0) dX8_trace_16 rfl rfl ?_
    refine nk_getf fX8_29 dX8_trace_17 mh_0 rfl ?_
    refine nk_iload_n (i := 1) dX8_trace_20 rfl rfl ?_
    refine nk_ialdN (j := j) dX8_trace_21 (mh_7 hi) (rfl) (by omega) (by decide) ?_
    refine nk_goto (tgt := 27) dX8_trace_22 (by decide) ?_
    refine nk_ireturn dX8_trace_27 rfl ?_
    exact ⟨rfl, rfl⟩
set_option maxRecDepth 20000 in
theorem s_X8_begin {G : nk_EG} {ad : Nat → Nat} {A : Nat → Nat → Int32} {I : Nat → Int32} (hi : mInj ad) {t : Nat} (hT : I 4 = nI t) (h16 : t ≤ 16) {x : Int32} : nk_Sv G mX8_begin 1 [.ref (ad 0), .int x] (mh ad A I) (mh ad (va_up A 6 (tr_a (A 6) t [x])) (va_up I 4 (nI (tr_t t [x])))) := by
  refine nk_S.of (by decide +kernel) (Nat.le_of_ble_eq_true rfl) rfl ?_
  refine nk_aload_n (i := 0) dX8_begin_0 rfl rfl ?_
  refine nk_getf fX8_313 dX8_begin_1 mh_0 rfl ?_
  rw [hT]
  refine nk_bipush (v := 16) dX8_begin_4 (by decide) ?_
  refine nk_icmpge (tgt := 29) dX8_begin_6 (by decide) (fun h6 => ?_) (fun h6 => ?_)
  · skip
    refine nk_vreturn dX8_begin_29 rfl ?_
    have c : ¬ t < 16 := Nat.not_lt.mpr (nk_leI (a := 16) h6 (by omega) (by omega))
    exact ⟨rfl, by rw [tr_a, tr_t, tr_a, tr_t, if_neg c, if_neg c, va_up_same, ← hT, va_up_same]⟩
  · skip
    have c := nk_nleI (a := 16) h6 (by omega) (by omega)
    refine nk_aload_n (i := 0) dX8_begin_9 rfl rfl ?_
    refine nk_getf fX8_29 dX8_begin_10 mh_0 rfl ?_
    refine nk_aload_n (i := 0) dX8_begin_13 rfl rfl ?_
    refine nk_getf fX8_313 dX8_begin_14 mh_0 rfl ?_
    refine nk_iload_n (i := 1) dX8_begin_17 rfl rfl ?_
    refine nk_iastN (j := t) dX8_begin_18 (mh_7 hi) (hT) (by omega) (by decide) ?_
    refine nk_J.to ?_ rfl rfl (mu_A6 hi)
    refine nk_aload_n (i := 0) dX8_begin_19 rfl rfl ?_
    refine nk_dup dX8_begin_20 rfl ?_
    refine nk_getf fX8_313 dX8_begin_21 mh_0 rfl ?_
    refine nk_iconst (v := 1) dX8_begin_24 (by decide) ?_
    refine nk_iadd dX8_begin_25 ?_
    refine nk_top (y := nI (t + 1)) (by rw [hT]; exact nI_1 t) ?_
    refine nk_putf pX8_313 dX8_begin_26 mh_0 rfl rfl (Nat.le_of_ble_eq_true rfl) rfl ?_
    refine nk_J.to ?_ rfl rfl mu_I4
    refine nk_vreturn dX8_begin_29 rfl ?_
    exact ⟨rfl, by rw [tr_a, tr_t, tr_a, tr_t, if_pos c, if_pos c]⟩
set_option maxRecDepth 20000 in
theorem s_X8_lentSize {G : nk_EG} {ad : Nat → Nat} {A : Nat → Nat → Int32} {I : Nat → Int32} (hi : mInj ad) {m b : Nat} (hm : mSh (A 0) 0 m b) {t : Nat} (hT : I 4 = nI t) (h16 : t ≤ 16) {j : Nat} (hj : j < 4) : nk_Si G mX8_lentSize 3 [.ref (ad 0), .int (nI j)] (mh ad A I) (nI (fb_ct (nk_mem (A 0) 0 j) 1024)) (mh ad (va_up A 6 (tr_a (A 6) t [10])) (va_up I 4 (nI (tr_t t [10])))) := by
  refine nk_S.of (by decide +kernel) (Nat.le_of_ble_eq_true rfl) rfl ?_
  refine nk_aload_n (i := 0) dX8_lentSize_0 rfl rfl ?_
  refine nk_bipush (v := 10) dX8_lentSize_1 (by decide) ?_
  refine nk_cVv kX8_316 (s_X8_begin hi hT h16) dX8_lentSize_3 mh_0 rfl rfl (by decide) (Nat.le_of_ble_eq_true rfl) ?_
  refine nk_aload_n (i := 0) dX8_lentSize_6 rfl rfl ?_
  refine nk_iconst (v := 0) dX8_lentSize_7 (by decide) ?_
  refine nk_iload_n (i := 1) dX8_lentSize_8 rfl rfl ?_
  refine nk_cVi kX8_168 (s_X8_keysOf hi (base := 0) (s := j) (by omega)) dX8_lentSize_9 mh_0 rfl rfl (by decide) (Nat.le_of_ble_eq_true rfl) ?_
  refine nk_ireturn dX8_lentSize_12 rfl ?_
  exact ⟨rfl, rfl⟩
set_option maxRecDepth 20000 in
theorem s_X8_lentMark {G : nk_EG} {ad : Nat → Nat} {A : Nat → Nat → Int32} {I : Nat → Int32} (hi : mInj ad) {m b : Nat} (hm : mSh (A 0) 0 m b) {t : Nat} (hT : I 4 = nI t) (h16 : t ≤ 16) {j : Nat} (hj : j < 4) : nk_Si G mX8_lentMark 2 [.ref (ad 0), .int (nI j)] (mh ad A I) (nI j) (mh ad (va_up A 6 (tr_a (A 6) t [20])) (va_up I 4 (nI (tr_t t [20])))) := by
  refine nk_S.of (by decide +kernel) (Nat.le_of_ble_eq_true rfl) rfl ?_
  refine nk_aload_n (i := 0) dX8_lentMark_0 rfl rfl ?_
  refine nk_bipush (v := 20) dX8_lentMark_1 (by decide) ?_
  refine nk_cVv kX8_316 (s_X8_begin hi hT h16) dX8_lentMark_3 mh_0 rfl rfl (by decide) (Nat.le_of_ble_eq_true rfl) ?_
  refine nk_iload_n (i := 1) dX8_lentMark_6 rfl rfl ?_
  refine nk_ireturn dX8_lentMark_7 rfl ?_
  exact ⟨rfl, rfl⟩
set_option maxRecDepth 20000 in
theorem s_X8_plainMark {G : nk_EG} {ad : Nat → Nat} {A : Nat → Nat → Int32} {I : Nat → Int32} (hi : mInj ad) {m b : Nat} (hm : mSh (A 0) 0 m b) {t : Nat} (hT : I 4 = nI t) (h16 : t ≤ 16) {j : Nat} (hj : j < 4) : nk_Si G mX8_plainMark 5 [.ref (ad 0), .int (nI j)] (mh ad A I) (av_pm (nk_mem (A 0) 0 j) (nk_tp b) j) (mh ad (va_up A 6 (tr_a (A 6) t [21, 20])) (va_up I 4 (nI (tr_t t [21, 20])))) := by
  refine nk_S.of (by decide +kernel) (Nat.le_of_ble_eq_true rfl) rfl ?_
  refine nk_aload_n (i := 0) dX8_plainMark_0 rfl rfl ?_
  refine nk_bipush (v := 21) dX8_plainMark_1 (by decide) ?_
  refine nk_cVv kX8_316 (s_X8_begin hi hT h16) dX8_plainMark_3 mh_0 rfl rfl (by decide) (Nat.le_of_ble_eq_true rfl) ?_
  refine nk_aload_n (i := 0) dX8_plainMark_6 rfl rfl ?_
  refine nk_iload_n (i := 1) dX8_plainMark_7 rfl rfl ?_
  refine nk_cVi kX8_332 (s_X8_lentMark hi (A := va_up A 6 (tr_a (A 6) t [21])) (I := va_up I 4 (nI (tr_t t [21]))) hm (t := tr_t t [21]) rfl (tr_t_le _ _ h16) hj) dX8_plainMark_8 mh_0 rfl rfl (by decide) (Nat.le_of_ble_eq_true rfl) ?_
  refine nk_istore_nT (i := 2) dX8_plainMark_11 rfl (by decide) ?_
  refine nk_iload_n (i := 2) dX8_plainMark_12 rfl rfl ?_
  refine nk_aload_n (i := 0) dX8_plainMark_13 rfl rfl ?_
  refine nk_iconst (v := 0) dX8_plainMark_14 (by decide) ?_
  refine nk_iload_n (i := 1) dX8_plainMark_15 rfl rfl ?_
  refine nk_cVi kX8_168 (s_X8_keysOf hi (base := 0) (s := j) (by omega)) dX8_plainMark_16 mh_0 rfl rfl (by decide) (Nat.le_of_ble_eq_true rfl) ?_
  refine nk_ifne (tgt := 26) dX8_plainMark_19 (by decide) (fun h19 => ?_) (fun h19 => ?_)
  · skip
    rw [show nk_mem (va_up (va_up A 6 (tr_a (A 6) t [21])) 6 (tr_a (va_up A 6 (tr_a (A 6) t [21]) 6) (tr_t t [21]) [20]) 0) 0 j = nk_mem (A 0) 0 j from rfl, nk_ct0] at h19
    refine nk_aload_n (i := 0) dX8_plainMark_26 rfl rfl ?_
    refine nk_iload_n (i := 1) dX8_plainMark_27 rfl rfl ?_
    refine nk_cVi kX8_147 (s_X8_leastOf hi (A := va_up (va_up A 6 (tr_a (A 6) t [21])) 6 (tr_a ((va_up A 6 (tr_a (A 6) t [21])) 6) (tr_t t [21]) [20])) hm hj) dX8_plainMark_28 mh_0 rfl rfl (by decide) (Nat.le_of_ble_eq_true rfl) ?_
    refine nk_iadd dX8_plainMark_31 ?_
    refine nk_ireturn dX8_plainMark_32 rfl ?_
    first
    | (unfold av_pm
       rw [if_pos h19]
       refine ⟨rfl, ?_⟩
       rw [bx_uu, bx_uu]
       exact nk_cg2 (tr_a_app [21] [20] (A 6) t) (tr_t_app [21] [20] t))
    | (unfold av_pm
       rw [if_neg h19]
       refine ⟨rfl, ?_⟩
       rw [bx_uu, bx_uu]
       exact nk_cg2 (tr_a_app [21] [20] (A 6) t) (tr_t_app [21] [20] t))
  · skip
    rw [show nk_mem (va_up (va_up A 6 (tr_a (A 6) t [21])) 6 (tr_a (va_up A 6 (tr_a (A 6) t [21]) 6) (tr_t t [21]) [20]) 0) 0 j = nk_mem (A 0) 0 j from rfl, nk_ct0] at h19
    refine nk_iconst (v := 0) dX8_plainMark_22 (by decide) ?_
    refine nk_goto (tgt := 31) dX8_plainMark_23 (by decide) ?_
    refine nk_iadd dX8_plainMark_31 ?_
    refine nk_ireturn dX8_plainMark_32 rfl ?_
    first
    | (unfold av_pm
       rw [if_pos h19]
       refine ⟨rfl, ?_⟩
       rw [bx_uu, bx_uu]
       exact nk_cg2 (tr_a_app [21] [20] (A 6) t) (tr_t_app [21] [20] t))
    | (unfold av_pm
       rw [if_neg h19]
       refine ⟨rfl, ?_⟩
       rw [bx_uu, bx_uu]
       exact nk_cg2 (tr_a_app [21] [20] (A 6) t) (tr_t_app [21] [20] t))
theorem nk_lk2 {x : Int32} (h : x = 2) : Op.lookupswitch.offset [((2 : Int), (44 : Int)), (3, 28)] 58 x.toInt = 44 := by subst h; rfl
theorem nk_lk3 {x : Int32} (h : x = 3) : Op.lookupswitch.offset [((2 : Int), (44 : Int)), (3, 28)] 58 x.toInt = 28 := by subst h; rfl
theorem nk_lkd {x : Int32} (h2 : ¬ x = 2) (h3 : ¬ x = 3) : Op.lookupswitch.offset [((2 : Int), (44 : Int)), (3, 28)] 58 x.toInt = 58 := by
  rw [lv_osw (k := 2) (a := 2) h2 rfl, lv_osw (k := 3) (a := 3) h3 rfl]; rfl
set_option maxRecDepth 20000 in
theorem s_X8_aboveMark {G : nk_EG} {ad : Nat → Nat} {A : Nat → Nat → Int32} {I : Nat → Int32} (hi : mInj ad) {m b : Nat} (hm : mSh (A 0) 0 m b) {t : Nat} (hT : I 4 = nI t) (h16 : t ≤ 16) {j : Nat} (hj : j < 4) : nk_Si G mX8_aboveMark 6 [.ref (ad 0), .int (nI j)] (mh ad A I) (av_am (nk_mem (A 0) 0 j) (nk_tp b) j (A 0 (2 + j))) (mh ad (va_up A 6 (tr_a (A 6) t (tl_am (A 0 (2 + j))))) (va_up I 4 (nI (tr_t t (tl_am (A 0 (2 + j))))))) := by
  refine nk_S.of (by decide +kernel) (Nat.le_of_ble_eq_true rfl) rfl ?_
  refine nk_aload_n (i := 0) dX8_aboveMark_0 rfl rfl ?_
  refine nk_getf fX8_7 dX8_aboveMark_1 mh_0 rfl ?_
  refine nk_iconst (v := 2) dX8_aboveMark_4 (by decide) ?_
  refine nk_iload_n (i := 1) dX8_aboveMark_5 rfl rfl ?_
  refine nk_iadd dX8_aboveMark_6 ?_
  refine nk_ialdN (j := 2 + j) dX8_aboveMark_7 (mh_1 hi) (nI_add 2 j) (by omega) (by decide) ?_
  by_cases c2 : A 0 (2 + j) = 2
  · refine nk_lookup (off := 44) (tgt := 52) dX8_aboveMark_8 (by decide) (nk_lk2 c2) (by decide) ?_
    refine nk_aload_n (i := 0) dX8_aboveMark_52 rfl rfl ?_
    refine nk_bipush (v := 24) dX8_aboveMark_53 (by decide) ?_
    refine nk_cVv kX8_316 (s_X8_begin hi hT h16) dX8_aboveMark_55 mh_0 rfl rfl (by decide) (Nat.le_of_ble_eq_true rfl) ?_
    refine nk_iconst (v := 2) dX8_aboveMark_58 (by decide) ?_
    refine nk_aload_n (i := 0) dX8_aboveMark_59 rfl rfl ?_
    refine nk_iload_n (i := 1) dX8_aboveMark_60 rfl rfl ?_
    refine nk_cVi kX8_335 (s_X8_plainMark hi (A := va_up A 6 (tr_a (A 6) t [24])) (I := va_up I 4 (nI (tr_t t [24]))) hm (t := tr_t t [24]) rfl (tr_t_le _ _ h16) hj) dX8_aboveMark_61 mh_0 rfl rfl (by decide) (Nat.le_of_ble_eq_true rfl) ?_
    refine nk_imul dX8_aboveMark_64 ?_
    refine nk_ireturn dX8_aboveMark_65 rfl ?_
    unfold av_am tl_am
    rw [if_pos c2, if_pos c2]
    refine ⟨rfl, ?_⟩
    rw [bx_uu, bx_uu]
    exact nk_cg2 (tr_a_app [24] [21, 20] (A 6) t) (tr_t_app [24] [21, 20] t)
  by_cases c3 : A 0 (2 + j) = 3
  · refine nk_lookup (off := 28) (tgt := 36) dX8_aboveMark_8 (by decide) (nk_lk3 c3) (by decide) ?_
    refine nk_aload_n (i := 0) dX8_aboveMark_36 rfl rfl ?_
    refine nk_bipush (v := 22) dX8_aboveMark_37 (by decide) ?_
    refine nk_cVv kX8_316 (s_X8_begin hi hT h16) dX8_aboveMark_39 mh_0 rfl rfl (by decide) (Nat.le_of_ble_eq_true rfl) ?_
    refine nk_aload_n (i := 0) dX8_aboveMark_42 rfl rfl ?_
    refine nk_iload_n (i := 1) dX8_aboveMark_43 rfl rfl ?_
    refine nk_cVi kX8_335 (s_X8_plainMark hi (A := va_up A 6 (tr_a (A 6) t [22])) (I := va_up I 4 (nI (tr_t t [22]))) hm (t := tr_t t [22]) rfl (tr_t_le _ _ h16) hj) dX8_aboveMark_44 mh_0 rfl rfl (by decide) (Nat.le_of_ble_eq_true rfl) ?_
    refine nk_sipush (v := 1000) dX8_aboveMark_47 (by decide) ?_
    refine nk_isub dX8_aboveMark_50 ?_
    refine nk_ireturn dX8_aboveMark_51 rfl ?_
    unfold av_am tl_am
    rw [if_neg c2, if_pos c3, if_neg c2, if_pos c3]
    refine ⟨rfl, ?_⟩
    rw [bx_uu, bx_uu]
    exact nk_cg2 (tr_a_app [22] [21, 20] (A 6) t) (tr_t_app [22] [21, 20] t)
  refine nk_lookup (off := 58) (tgt := 66) dX8_aboveMark_8 (by decide) (nk_lkd c2 c3) (by decide) ?_
  refine nk_aload_n (i := 0) dX8_aboveMark_66 rfl rfl ?_
  refine nk_iload_n (i := 1) dX8_aboveMark_67 rfl rfl ?_
  refine nk_cVi kX8_335 (s_X8_plainMark hi hm hT h16 hj) dX8_aboveMark_68 mh_0 rfl rfl (by decide) (Nat.le_of_ble_eq_true rfl) ?_
  refine nk_ireturn dX8_aboveMark_71 rfl ?_
  unfold av_am tl_am
  rw [if_neg c2, if_neg c3, if_neg c2, if_neg c3]
  exact ⟨rfl, rfl⟩
set_option maxRecDepth 20000 in
theorem s_X8_aboveSize {G : nk_EG} {ad : Nat → Nat} {A : Nat → Nat → Int32} {I : Nat → Int32} (hi : mInj ad) {m b : Nat} (hm : mSh (A 0) 0 m b) {t : Nat} (hT : I 4 = nI t) (h16 : t ≤ 16) {j : Nat} (hj : j < 4) : nk_Si G mX8_aboveSize 7 [.ref (ad 0), .int (nI j)] (mh ad A I) (av_as (nk_mem (A 0) 0 j) (nk_tp b) j (A 0 (2 + j))) (mh ad (va_up A 6 (tr_a (A 6) t (tl_as (A 0 (2 + j))))) (va_up I 4 (nI (tr_t t (tl_as (A 0 (2 + j))))))) := by
  refine nk_S.of (by decide +kernel) (Nat.le_of_ble_eq_true rfl) rfl ?_
  refine nk_aload_n (i := 0) dX8_aboveSize_0 rfl rfl ?_
  refine nk_bipush (v := 11) dX8_aboveSize_1 (by decide) ?_
  refine nk_cVv kX8_316 (s_X8_begin hi hT h16) dX8_aboveSize_3 mh_0 rfl rfl (by decide) (Nat.le_of_ble_eq_true rfl) ?_
  refine nk_aload_n (i := 0) dX8_aboveSize_6 rfl rfl ?_
  refine nk_iload_n (i := 1) dX8_aboveSize_7 rfl rfl ?_
  refine nk_cVi kX8_320 (s_X8_lentSize hi (A := va_up A 6 (tr_a (A 6) t [11])) (I := va_up I 4 (nI (tr_t t [11]))) hm (t := tr_t t [11]) rfl (tr_t_le _ _ h16) hj) dX8_aboveSize_8 mh_0 rfl rfl (by decide) (Nat.le_of_ble_eq_true rfl) ?_
  refine nk_istore_nT (i := 2) dX8_aboveSize_11 rfl (by decide) ?_
  refine nk_iload_n (i := 2) dX8_aboveSize_12 rfl rfl ?_
  refine nk_aload_n (i := 0) dX8_aboveSize_13 rfl rfl ?_
  refine nk_iload_n (i := 1) dX8_aboveSize_14 rfl rfl ?_
  refine nk_cVi kX8_323 (s_X8_aboveMark hi (A := va_up (va_up A 6 (tr_a (A 6) t [11])) 6 (tr_a ((va_up A 6 (tr_a (A 6) t [11])) 6) (tr_t t [11]) [10])) (I := va_up (va_up I 4 (nI (tr_t t [11]))) 4 (nI (tr_t (tr_t t [11]) [10]))) hm (t := tr_t (tr_t t [11]) [10]) rfl (tr_t_le _ _ (tr_t_le _ _ h16)) hj) dX8_aboveSize_15 mh_0 rfl rfl (by decide) (Nat.le_of_ble_eq_true rfl) ?_
  refine nk_iadd dX8_aboveSize_18 ?_
  refine nk_ireturn dX8_aboveSize_19 rfl ?_
  refine ⟨rfl, ?_⟩
  rw [bx_uu, bx_uu, bx_uu, bx_uu]
  exact nk_cg2 (by
    show tr_a (tr_a (tr_a (A 6) t [11]) (tr_t t [11]) [10]) (tr_t (tr_t t [11]) [10]) (tl_am (A 0 (2 + j))) = _
    rw [tr_a_app, tr_a_app]; rfl) (by
    show tr_t (tr_t (tr_t t [11]) [10]) (tl_am (A 0 (2 + j))) = _
    rw [tr_t_app, tr_t_app]; rfl)
set_option maxRecDepth 20000 in
theorem s_X8_belowSize {G : nk_EG} {ad : Nat → Nat} {A : Nat → Nat → Int32} {I : Nat → Int32} (hi : mInj ad) {m b : Nat} (hm : mSh (A 0) 0 m b) {t : Nat} (hT : I 4 = nI t) (h16 : t ≤ 16) {j : Nat} (hj : j < 4) : nk_Si G mX8_belowSize 4 [.ref (ad 0), .int (nI j)] (mh ad A I) (nI (fb_ct (nk_mem (A 0) 0 j) 1024) - 100) (mh ad (va_up A 6 (tr_a (A 6) t [13, 10])) (va_up I 4 (nI (tr_t t [13, 10])))) := by
  refine nk_S.of (by decide +kernel) (Nat.le_of_ble_eq_true rfl) rfl ?_
  refine nk_aload_n (i := 0) dX8_belowSize_0 rfl rfl ?_
  refine nk_bipush (v := 13) dX8_belowSize_1 (by decide) ?_
  refine nk_cVv kX8_316 (s_X8_begin hi hT h16) dX8_belowSize_3 mh_0 rfl rfl (by decide) (Nat.le_of_ble_eq_true rfl) ?_
  refine nk_aload_n (i := 0) dX8_belowSize_6 rfl rfl ?_
  refine nk_iload_n (i := 1) dX8_belowSize_7 rfl rfl ?_
  refine nk_cVi kX8_320 (s_X8_lentSize hi (A := va_up A 6 (tr_a (A 6) t [13])) (I := va_up I 4 (nI (tr_t t [13]))) hm (t := tr_t t [13]) rfl (tr_t_le _ _ h16) hj) dX8_belowSize_8 mh_0 rfl rfl (by decide) (Nat.le_of_ble_eq_true rfl) ?_
  refine nk_bipush (v := 100) dX8_belowSize_11 (by decide) ?_
  refine nk_isub dX8_belowSize_13 ?_
  refine nk_ireturn dX8_belowSize_14 rfl ?_
  refine ⟨rfl, ?_⟩
  rw [bx_uu, bx_uu]
  exact nk_cg2 (tr_a_app [13] [10] (A 6) t) (tr_t_app [13] [10] t)
set_option maxRecDepth 20000 in
theorem s_X8_sizeOf {G : nk_EG} {ad : Nat → Nat} {A : Nat → Nat → Int32} {I : Nat → Int32} (hi : mInj ad) {m b : Nat} (hm : mSh (A 0) 0 m b) {t : Nat} (hT : I 4 = nI t) (h16 : t ≤ 16) {j : Nat} (hj : j < 4) : nk_Si G mX8_sizeOf 8 [.ref (ad 0), .int (nI j)] (mh ad A I) (av_sz (nk_mem (A 0) 0 j) (nk_tp b) j (A 0 (2 + j))) (mh ad (va_up A 6 (tr_a (A 6) t (tl_sz (A 0 (2 + j))))) (va_up I 4 (nI (tr_t t (tl_sz (A 0 (2 + j))))))) := by
  refine nk_S.of (by decide +kernel) (Nat.le_of_ble_eq_true rfl) rfl ?_
  refine nk_aload_n (i := 0) dX8_sizeOf_0 rfl rfl ?_
  refine nk_getf fX8_7 dX8_sizeOf_1 mh_0 rfl ?_
  refine nk_iconst (v := 2) dX8_sizeOf_4 (by decide) ?_
  refine nk_iload_n (i := 1) dX8_sizeOf_5 rfl rfl ?_
  refine nk_iadd dX8_sizeOf_6 ?_
  refine nk_ialdN (j := 2 + j) dX8_sizeOf_7 (mh_1 hi) (nI_add 2 j) (by omega) (by decide) ?_
  by_cases c8_2 : A 0 (2 + j) = 2
  · skip
    refine nk_top (y := 2) c8_2 ?_
    refine nk_tableIn (tgt := 40) (off := 32) dX8_sizeOf_8 (by decide) (by decide) (by decide) (by decide) ?_
    refine nk_aload_n (i := 0) dX8_sizeOf_40 rfl rfl ?_
    refine nk_bipush (v := 12) dX8_sizeOf_41 (by decide) ?_
    refine nk_cVv kX8_316 (s_X8_begin hi hT h16) dX8_sizeOf_43 mh_0 rfl rfl (by decide) (Nat.le_of_ble_eq_true rfl) ?_
    refine nk_aload_n (i := 0) dX8_sizeOf_46 rfl rfl ?_
    refine nk_iload_n (i := 1) dX8_sizeOf_47 rfl rfl ?_
    refine nk_cVi kX8_326 (s_X8_aboveSize hi (A := va_up A 6 (tr_a (A 6) t [12])) (I := va_up I 4 (nI (tr_t t [12]))) hm (t := tr_t t [12]) rfl (tr_t_le _ _ h16) hj) dX8_sizeOf_48 mh_0 rfl rfl (by decide) (Nat.le_of_ble_eq_true rfl) ?_
    refine nk_ineg dX8_sizeOf_51 ?_
    refine nk_ireturn dX8_sizeOf_52 rfl ?_
    unfold av_sz tl_sz
    rw [if_pos c8_2, if_pos c8_2]
    refine ⟨rfl, ?_⟩
    rw [bx_uu, bx_uu]
    exact nk_cg2 (tr_a_app [12] (tl_as (A 0 (2 + j))) (A 6) t) (tr_t_app [12] (tl_as (A 0 (2 + j))) t)
  by_cases c8_3 : A 0 (2 + j) = 3
  · skip
    refine nk_top (y := 3) c8_3 ?_
    refine nk_tableIn (tgt := 73) (off := 65) dX8_sizeOf_8 (by decide) (by decide) (by decide) (by decide) ?_
    refine nk_aload_n (i := 0) dX8_sizeOf_73 rfl rfl ?_
    refine nk_iload_n (i := 1) dX8_sizeOf_74 rfl rfl ?_
    refine nk_cVi kX8_326 (s_X8_aboveSize hi hm hT h16 hj) dX8_sizeOf_75 mh_0 rfl rfl (by decide) (Nat.le_of_ble_eq_true rfl) ?_
    refine nk_ireturn dX8_sizeOf_78 rfl ?_
    have c4 : ¬ A 0 (2 + j) = 4 := by first | exact c8_4 | (intro z; rw [c8_3] at z; exact absurd z (by decide))
    have c5 : ¬ A 0 (2 + j) = 5 := by first | exact c8_5 | (intro z; rw [c8_3] at z; exact absurd z (by decide))
    unfold av_sz tl_sz
    rw [if_neg c8_2, if_neg c4, if_neg c5, if_neg c8_2, if_neg c4, if_neg c5]
    exact ⟨rfl, rfl⟩
  by_cases c8_4 : A 0 (2 + j) = 4
  · skip
    refine nk_top (y := 4) c8_4 ?_
    refine nk_tableIn (tgt := 53) (off := 45) dX8_sizeOf_8 (by decide) (by decide) (by decide) (by decide) ?_
    refine nk_aload_n (i := 0) dX8_sizeOf_53 rfl rfl ?_
    refine nk_iload_n (i := 1) dX8_sizeOf_54 rfl rfl ?_
    refine nk_cVi kX8_329 (s_X8_belowSize hi hm hT h16 hj) dX8_sizeOf_55 mh_0 rfl rfl (by decide) (Nat.le_of_ble_eq_true rfl) ?_
    refine nk_ireturn dX8_sizeOf_58 rfl ?_
    unfold av_sz tl_sz
    rw [if_neg c8_2, if_pos c8_4, if_neg c8_2, if_pos c8_4]
    exact ⟨rfl, rfl⟩
  by_cases c8_5 : A 0 (2 + j) = 5
  · skip
    refine nk_top (y := 5) c8_5 ?_
    refine nk_tableIn (tgt := 59) (off := 51) dX8_sizeOf_8 (by decide) (by decide) (by decide) (by decide) ?_
    refine nk_aload_n (i := 0) dX8_sizeOf_59 rfl rfl ?_
    refine nk_bipush (v := 14) dX8_sizeOf_60 (by decide) ?_
    refine nk_cVv kX8_316 (s_X8_begin hi hT h16) dX8_sizeOf_62 mh_0 rfl rfl (by decide) (Nat.le_of_ble_eq_true rfl) ?_
    refine nk_iconst (v := 2) dX8_sizeOf_65 (by decide) ?_
    refine nk_aload_n (i := 0) dX8_sizeOf_66 rfl rfl ?_
    refine nk_iload_n (i := 1) dX8_sizeOf_67 rfl rfl ?_
    refine nk_cVi kX8_329 (s_X8_belowSize hi (A := va_up A 6 (tr_a (A 6) t [14])) (I := va_up I 4 (nI (tr_t t [14]))) hm (t := tr_t t [14]) rfl (tr_t_le _ _ h16) hj) dX8_sizeOf_68 mh_0 rfl rfl (by decide) (Nat.le_of_ble_eq_true rfl) ?_
    refine nk_imul dX8_sizeOf_71 ?_
    refine nk_ireturn dX8_sizeOf_72 rfl ?_
    unfold av_sz tl_sz
    rw [if_neg c8_2, if_neg c8_4, if_pos c8_5, if_neg c8_2, if_neg c8_4, if_pos c8_5]
    refine ⟨rfl, ?_⟩
    rw [bx_uu, bx_uu]
    exact nk_cg2 (tr_a_app [14] [13, 10] (A 6) t) (tr_t_app [14] [13, 10] t)
  have e8_2 : (A 0 (2 + j)).toInt ≠ 2 := nk_neI c8_2
  have e8_3 : (A 0 (2 + j)).toInt ≠ 3 := nk_neI c8_3
  have e8_4 : (A 0 (2 + j)).toInt ≠ 4 := nk_neI c8_4
  have e8_5 : (A 0 (2 + j)).toInt ≠ 5 := nk_neI c8_5
  refine nk_tableOut (tgt := 73) dX8_sizeOf_8 (by omega) (by decide) ?_
  refine nk_aload_n (i := 0) dX8_sizeOf_73 rfl rfl ?_
  refine nk_iload_n (i := 1) dX8_sizeOf_74 rfl rfl ?_
  refine nk_cVi kX8_326 (s_X8_aboveSize hi hm hT h16 hj) dX8_sizeOf_75 mh_0 rfl rfl (by decide) (Nat.le_of_ble_eq_true rfl) ?_
  refine nk_ireturn dX8_sizeOf_78 rfl ?_
  have c4 : ¬ A 0 (2 + j) = 4 := by first | exact c8_4 | (intro z; rw [c8_3] at z; exact absurd z (by decide))
  have c5 : ¬ A 0 (2 + j) = 5 := by first | exact c8_5 | (intro z; rw [c8_3] at z; exact absurd z (by decide))
  unfold av_sz tl_sz
  rw [if_neg c8_2, if_neg c4, if_neg c5, if_neg c8_2, if_neg c4, if_neg c5]
  exact ⟨rfl, rfl⟩
set_option maxRecDepth 20000 in
theorem s_X8_belowMark {G : nk_EG} {ad : Nat → Nat} {A : Nat → Nat → Int32} {I : Nat → Int32} (hi : mInj ad) {m b : Nat} (hm : mSh (A 0) 0 m b) {t : Nat} (hT : I 4 = nI t) (h16 : t ≤ 16) {j : Nat} (hj : j < 4) : nk_Si G mX8_belowMark 9 [.ref (ad 0), .int (nI j)] (mh ad A I) (av_bm (nk_mem (A 0) 0 j) (nk_tp b) j (A 0 (2 + j))) (mh ad (va_up A 6 (tr_a (A 6) t (tl_bm (A 0 (2 + j))))) (va_up I 4 (nI (tr_t t (tl_bm (A 0 (2 + j))))))) := by
  refine nk_S.of (by decide +kernel) (Nat.le_of_ble_eq_true rfl) rfl ?_
  refine nk_aload_n (i := 0) dX8_belowMark_0 rfl rfl ?_
  refine nk_bipush (v := 23) dX8_belowMark_1 (by decide) ?_
  refine nk_cVv kX8_316 (s_X8_begin hi hT h16) dX8_belowMark_3 mh_0 rfl rfl (by decide) (Nat.le_of_ble_eq_true rfl) ?_
  refine nk_aload_n (i := 0) dX8_belowMark_6 rfl rfl ?_
  refine nk_iload_n (i := 1) dX8_belowMark_7 rfl rfl ?_
  refine nk_cVi kX8_332 (s_X8_lentMark hi (A := va_up A 6 (tr_a (A 6) t [23])) (I := va_up I 4 (nI (tr_t t [23]))) hm (t := tr_t t [23]) rfl (tr_t_le _ _ h16) hj) dX8_belowMark_8 mh_0 rfl rfl (by decide) (Nat.le_of_ble_eq_true rfl) ?_
  refine nk_istore_nT (i := 2) dX8_belowMark_11 rfl (by decide) ?_
  refine nk_iload_n (i := 2) dX8_belowMark_12 rfl rfl ?_
  refine nk_aload_n (i := 0) dX8_belowMark_13 rfl rfl ?_
  refine nk_iload_n (i := 1) dX8_belowMark_14 rfl rfl ?_
  refine nk_cVi kX8_338 (s_X8_sizeOf hi (A := va_up (va_up A 6 (tr_a (A 6) t [23])) 6 (tr_a ((va_up A 6 (tr_a (A 6) t [23])) 6) (tr_t t [23]) [20])) (I := va_up (va_up I 4 (nI (tr_t t [23]))) 4 (nI (tr_t (tr_t t [23]) [20]))) hm (t := tr_t (tr_t t [23]) [20]) rfl (tr_t_le _ _ (tr_t_le _ _ h16)) hj) dX8_belowMark_15 mh_0 rfl rfl (by decide) (Nat.le_of_ble_eq_true rfl) ?_
  refine nk_isub dX8_belowMark_18 ?_
  refine nk_ireturn dX8_belowMark_19 rfl ?_
  refine ⟨rfl, ?_⟩
  rw [bx_uu, bx_uu, bx_uu, bx_uu]
  exact nk_cg2 (by
    show tr_a (tr_a (tr_a (A 6) t [23]) (tr_t t [23]) [20]) (tr_t (tr_t t [23]) [20]) (tl_sz (A 0 (2 + j))) = _
    rw [tr_a_app, tr_a_app]; rfl) (by
    show tr_t (tr_t (tr_t t [23]) [20]) (tl_sz (A 0 (2 + j))) = _
    rw [tr_t_app, tr_t_app]; rfl)

/-! the class: the words of a set -/
set_option maxRecDepth 20000 in
theorem s_X2_wordsFor {G : nk_EG} {b : Nat} {H : nk_AH} (hb2 : 2 ≤ b) (hb10 : b ≤ 10) : nk_Si G mX2_wordsFor 1 [.int (nI b)] H (nI (nk_wm b)) H := by
  refine nk_S.of (by decide +kernel) (Nat.le_of_ble_eq_true rfl) rfl ?_
  have hw := wf_f b hb10 hb2
  refine nk_iload_n (i := 0) dX2_wordsFor_0 rfl rfl ?_
  refine nk_iconst (v := 5) dX2_wordsFor_1 (by decide) ?_
  refine nk_icmpgt (tgt := 9) dX2_wordsFor_2 (by decide) (fun h2 => ?_) (fun h2 => ?_)
  · skip
    refine nk_iconst (v := 1) dX2_wordsFor_9 (by decide) ?_
    refine nk_iload_n (i := 0) dX2_wordsFor_10 rfl rfl ?_
    refine nk_iconst (v := 5) dX2_wordsFor_11 (by decide) ?_
    refine nk_isub dX2_wordsFor_12 ?_
    refine nk_top (y := nI (b - 5)) (pk_sub (b := 5) (by have := nk_ltI (a := 5) h2 (by omega) (by omega); omega)) ?_
    refine nk_ishl dX2_wordsFor_13 ?_
    refine nk_ireturn dX2_wordsFor_14 rfl ?_
    first
    | (have h2 := nk_ltI (a := 5) h2 (by omega) (by omega)
       have c : ¬ b ≤ 5 := by omega
       exact ⟨by rw [hw.2 c, nk_sh1 (by omega)], rfl⟩)
    | exact ⟨by rw [hw.1 (nk_nltI (a := 5) h2 (by omega) (by omega))]; rfl, rfl⟩
  · skip
    refine nk_iconst (v := 1) dX2_wordsFor_5 (by decide) ?_
    refine nk_goto (tgt := 14) dX2_wordsFor_6 (by decide) ?_
    refine nk_ireturn dX2_wordsFor_14 rfl ?_
    first
    | (have h2 := nk_ltI (a := 5) h2 (by omega) (by omega)
       have c : ¬ b ≤ 5 := by omega
       exact ⟨by rw [hw.2 c, nk_sh1 (by omega)], rfl⟩)
    | exact ⟨by rw [hw.1 (nk_nltI (a := 5) h2 (by omega) (by omega))]; rfl, rfl⟩
set_option maxRecDepth 20000 in
theorem s_X2_spanIn {G : nk_EG} {v : Nat} {a c : Int32} {H : nk_AH} (hv : v ≤ 32) (ha : -2000 ≤ a.toInt ∧ a.toInt ≤ 2000) (hc : -2000 ≤ c.toInt ∧ c.toInt ≤ 2000) : nk_Si G mX2_spanIn 2 [.int (nI v), .int a, .int c] H (sw v a.toInt c.toInt) H := by
  refine nk_S.of (by decide +kernel) (Nat.le_of_ble_eq_true rfl) rfl ?_
  have d1 := sw_d hv ha
  have d2 := sw_d hv hc
  have e1 := sw_low (x := a - nI (v * 32))
  have e2 := sw_high (x := c - nI (v * 32))
  rw [d1] at e1
  rw [d2] at e2
  refine nk_iload_n (i := 1) dX2_spanIn_0 rfl rfl ?_
  refine nk_iload_n (i := 0) dX2_spanIn_1 rfl rfl ?_
  refine nk_bipush (v := 32) dX2_spanIn_2 (by decide) ?_
  refine nk_imul dX2_spanIn_4 ?_
  refine nk_top (y := nI (v * 32)) (nk_x32 v) ?_
  refine nk_isub dX2_spanIn_5 ?_
  refine nk_iconst (v := 0) dX2_spanIn_6 (by decide) ?_
  refine nk_cSi kX2_43 (s_J9_max_7cf53) dX2_spanIn_7 rfl rfl (by decide) (Nat.le_of_ble_eq_true rfl) ?_
  generalize pf_mx (a - nI (v * 32)) 0 = lo at e1
  refine nk_istore_nT (i := 3) dX2_spanIn_10 rfl (by decide) ?_
  refine nk_iload_n (i := 2) dX2_spanIn_11 rfl rfl ?_
  refine nk_iload_n (i := 0) dX2_spanIn_12 rfl rfl ?_
  refine nk_bipush (v := 32) dX2_spanIn_13 (by decide) ?_
  refine nk_imul dX2_spanIn_15 ?_
  refine nk_top (y := nI (v * 32)) (nk_x32 v) ?_
  refine nk_isub dX2_spanIn_16 ?_
  refine nk_bipush (v := 31) dX2_spanIn_17 (by decide) ?_
  refine nk_cSi kX2_49 (s_J9_min_7cf53) dX2_spanIn_19 rfl rfl (by decide) (Nat.le_of_ble_eq_true rfl) ?_
  generalize (if 31 < c - nI (v * 32) then 31 else c - nI (v * 32) : Int32) = up at e2
  refine nk_istoreT dX2_spanIn_22 (by decide) ?_
  refine nk_iload_n (i := 3) dX2_spanIn_24 rfl rfl ?_
  refine nk_iload dX2_spanIn_25 rfl ?_
  refine nk_icmple (tgt := 34) dX2_spanIn_27 (by decide) (fun h27 => ?_) (fun h27 => ?_)
  · skip
    have h27 := (fa_le _ _).mp h27
    have el := nI_ofI (x := lo) (by omega)
    have eu := nI_ofI (x := up) (by omega)
    generalize hL : lo.toInt.toNat = L at el
    generalize hU : up.toInt.toNat = U at eu
    subst el eu
    refine nk_iconst (v := -1) dX2_spanIn_34 (by decide) ?_
    refine nk_iload_n (i := 3) dX2_spanIn_35 rfl rfl ?_
    refine nk_ishl dX2_spanIn_36 ?_
    refine nk_iconst (v := -1) dX2_spanIn_37 (by decide) ?_
    refine nk_bipush (v := 31) dX2_spanIn_38 (by decide) ?_
    refine nk_iload dX2_spanIn_40 rfl ?_
    refine nk_isub dX2_spanIn_42 ?_
    refine nk_iushr dX2_spanIn_43 ?_
    refine nk_iand dX2_spanIn_44 ?_
    refine nk_ireturn dX2_spanIn_45 rfl ?_
    first
    | exact ⟨by rw [sw_no (by rw [← e1, ← e2]; exact h27)], rfl⟩
    | (have a1 : (L : Int) = max (a.toInt - 32 * (v : Int)) 0 := by omega
       have a2 : (U : Int) = min (c.toInt - 32 * (v : Int)) 31 := by omega
       exact ⟨by rw [show (31 : Int32) - nI U = nI (31 - U) from pk_sub (a := 31) (by omega), ← sw_yes a1 a2 (by omega)], rfl⟩)
  · skip
    have h27 := fun z => h27 ((fa_le _ _).mpr z)
    refine nk_iconst (v := 0) dX2_spanIn_30 (by decide) ?_
    refine nk_goto (tgt := 45) dX2_spanIn_31 (by decide) ?_
    refine nk_ireturn dX2_spanIn_45 rfl ?_
    first
    | exact ⟨by rw [sw_no (by rw [← e1, ← e2]; exact h27)], rfl⟩
    | (have a1 : (L : Int) = max (a.toInt - 32 * (v : Int)) 0 := by omega
       have a2 : (U : Int) = min (c.toInt - 32 * (v : Int)) 31 := by omega
       exact ⟨by rw [show (31 : Int32) - nI U = nI (31 - U) from pk_sub (a := 31) (by omega), ← sw_yes a1 a2 (by omega)], rfl⟩)
set_option maxRecDepth 20000 in
theorem s_X2_isKey {G : nk_EG} {H : nk_AH} {q w j b : Nat} {κ : Int32} {f : Nat → Int32} (hk : cK H q w j κ b f) (hb2 : 2 ≤ b) (hb10 : b ≤ 10) {x : Int32} : nk_Si G mX2_isKey 2 [.ref q, .int x] H (if 0 ≤ x.toInt ∧ x.toInt < nk_tp b then 1 else 0) H := by
  refine nk_S.of (by decide +kernel) (Nat.le_of_ble_eq_true rfl) rfl ?_
  have hwm := wm_f b hb10 hb2
  refine nk_iload_n (i := 1) dX2_isKey_0 rfl rfl ?_
  refine nk_iconst (v := 0) dX2_isKey_1 (by decide) ?_
  refine nk_aload_n (i := 0) dX2_isKey_2 rfl rfl ?_
  refine nk_getf fX2_18 dX2_isKey_3 hk.1 rfl ?_
  refine nk_iconst (v := 1) dX2_isKey_6 (by decide) ?_
  refine nk_isub dX2_isKey_7 ?_
  refine nk_cNi kX2_52 (s_X7_within) dX2_isKey_8 rfl rfl (by decide) (Nat.le_of_ble_eq_true rfl) ?_
  refine nk_zreturn dX2_isKey_11 rfl (nk_bn _) ?_
  exact ⟨nk_ifc (by rw [nk_m1 (by omega), show (0 : Int32).toInt = 0 from rfl]; omega), rfl⟩
set_option maxRecDepth 20000 in
theorem s_X2_holds {G : nk_EG} {H : nk_AH} {q w j b : Nat} {κ : Int32} {f : Nat → Int32} (hk : cK H q w j κ b f) (hb2 : 2 ≤ b) (hb10 : b ≤ 10) {k : Nat} (hkk : k < nk_tp b) : nk_Si G mX2_holds 1 [.ref q, .int (nI k)] H (if gm f k = true then 1 else 0) H := by
  refine nk_S.of (by decide +kernel) (Nat.le_of_ble_eq_true rfl) rfl ?_
  have hwm := wm_f b hb10 hb2
  refine nk_aload_n (i := 0) dX2_holds_0 rfl rfl ?_
  refine nk_getf fX2_39 dX2_holds_1 hk.1 rfl ?_
  refine nk_iload_n (i := 1) dX2_holds_4 rfl rfl ?_
  refine nk_bipush (v := 32) dX2_holds_5 (by decide) ?_
  refine nk_idiv dX2_holds_7 (by decide) ?_
  refine nk_ialdN (j := k / 32) dX2_holds_8 hk.2 (nk_d32 (by omega)) (by omega) (by omega) ?_
  refine nk_iload_n (i := 1) dX2_holds_9 rfl rfl ?_
  refine nk_bipush (v := 32) dX2_holds_10 (by decide) ?_
  refine nk_irem dX2_holds_12 (by decide) ?_
  refine nk_top (y := nI (k % 32)) (nk_r32 (by omega)) ?_
  refine nk_iushr dX2_holds_13 ?_
  refine nk_iconst (v := 1) dX2_holds_14 (by decide) ?_
  refine nk_iand dX2_holds_15 ?_
  refine nk_iconst (v := 1) dX2_holds_16 (by decide) ?_
  refine nk_icmpne (tgt := 24) dX2_holds_17 (by decide) (fun h17 => ?_) (fun h17 => ?_)
  · skip
    rw [ju_bit1 (by omega)] at h17
    refine nk_iconst (v := 0) dX2_holds_24 (by decide) ?_
    refine nk_zreturn dX2_holds_25 rfl rfl ?_
    first
    | exact ⟨nk_v0 h17, rfl⟩
    | exact ⟨nk_v1 h17, rfl⟩
    | exact ⟨nk_v1 (Classical.not_not.mp h17), rfl⟩
  · skip
    rw [ju_bit1 (by omega)] at h17
    refine nk_iconst (v := 1) dX2_holds_20 (by decide) ?_
    refine nk_goto (tgt := 25) dX2_holds_21 (by decide) ?_
    refine nk_zreturn dX2_holds_25 rfl rfl ?_
    first
    | exact ⟨nk_v0 h17, rfl⟩
    | exact ⟨nk_v1 h17, rfl⟩
    | exact ⟨nk_v1 (Classical.not_not.mp h17), rfl⟩
set_option maxRecDepth 20000 in
theorem l_sizeWithin {G : nk_EG} {H : nk_AH} {q w j b : Nat} {κ : Int32} {f : Nat → Int32} (hk : cK H q w j κ b f) (hb2 : 2 ≤ b) (hb10 : b ≤ 10) (hz : gz f b) {a c : Int32} (ha : -2000 ≤ a.toInt ∧ a.toInt ≤ 2000) (hc : -2000 ≤ c.toInt ∧ c.toInt ≤ 2000) : ∀ (n : Nat) (v : Nat) (h1 : v ≤ nk_wm b) (h2 : nk_wm b < v + n), nk_J G mX2_sizeWithin 3 (nk_ri (nI (fb_ct (cwp f a.toInt c.toInt) 1024)) H) 0 0 5 [some (.ref q), some (.int a), some (.int c), some (.int (nI (fb_ct (cwp f a.toInt c.toInt) (32 * v)))), some (.int (nI v))] [] H := by
  intro n
  induction n with
  | zero => intro v h1 h2; omega
  | succ n ih =>
    intro v h1 h2
    have hwm := wm_f b hb10 hb2
    refine nk_iload dX2_sizeWithin_5 rfl ?_
    refine nk_aload_n (i := 0) dX2_sizeWithin_7 rfl rfl ?_
    refine nk_getf fX2_39 dX2_sizeWithin_8 hk.1 rfl ?_
    refine nk_alen 0 rfl dX2_sizeWithin_11 hk.2 rfl ?_
    refine nk_top (y := nI (nk_wm b)) (nk_len _) ?_
    refine nk_icmpge (tgt := 42) dX2_sizeWithin_12 (by decide) (fun h12 => ?_) (fun h12 => ?_)
    · skip
      refine nk_iload_n (i := 3) dX2_sizeWithin_42 rfl rfl ?_
      refine nk_ireturn dX2_sizeWithin_43 rfl ?_
      have e : v = nk_wm b := Nat.le_antisymm h1 (nk_leI h12 (by omega) (by omega))
      exact ⟨by rw [e, cw_end hb2 hb10 hz], rfl⟩
    · skip
      have hv := nk_nleI (a := nk_wm b) h12 (by omega) (by omega)
      refine nk_iload_n (i := 3) dX2_sizeWithin_15 rfl rfl ?_
      refine nk_aload_n (i := 0) dX2_sizeWithin_16 rfl rfl ?_
      refine nk_getf fX2_39 dX2_sizeWithin_17 hk.1 rfl ?_
      refine nk_iload dX2_sizeWithin_20 rfl ?_
      refine nk_ialdN (j := v) dX2_sizeWithin_22 hk.2 (rfl) (by omega) (by omega) ?_
      refine nk_iload dX2_sizeWithin_23 rfl ?_
      refine nk_iload_n (i := 1) dX2_sizeWithin_25 rfl rfl ?_
      refine nk_iload_n (i := 2) dX2_sizeWithin_26 rfl rfl ?_
      refine nk_cSi kX2_56 (s_X2_spanIn (by omega) ha hc) dX2_sizeWithin_27 rfl rfl (by decide) (Nat.le_of_ble_eq_true rfl) ?_
      refine nk_iand dX2_sizeWithin_30 ?_
      refine nk_cSi kX2_84 (s_J6_bitCount_0f7a4) dX2_sizeWithin_31 rfl rfl (by decide) (Nat.le_of_ble_eq_true rfl) ?_
      refine nk_iadd dX2_sizeWithin_34 ?_
      refine nk_top (y := nI (fb_ct (cwp f a.toInt c.toInt) (32 * (v + 1)))) (by rw [nI_add, cw_step]) ?_
      refine nk_istore_nT (i := 3) dX2_sizeWithin_35 rfl (by decide) ?_
      refine nk_iincT dX2_sizeWithin_36 rfl (nk_i1 v) (by decide) ?_
      refine nk_goto (tgt := 5) dX2_sizeWithin_39 (by decide) ?_
      exact ih (v + 1) (by omega) (by omega)
set_option maxRecDepth 20000 in
theorem s_X2_sizeWithin {G : nk_EG} {H : nk_AH} {q w j b : Nat} {κ : Int32} {f : Nat → Int32} (hk : cK H q w j κ b f) (hb2 : 2 ≤ b) (hb10 : b ≤ 10) (hz : gz f b) {a c : Int32} (ha : -2000 ≤ a.toInt ∧ a.toInt ≤ 2000) (hc : -2000 ≤ c.toInt ∧ c.toInt ≤ 2000) : nk_Si G mX2_sizeWithin 3 [.ref q, .int a, .int c] H (nI (fb_ct (cwp f a.toInt c.toInt) 1024)) H := by
  refine nk_S.of (by decide +kernel) (Nat.le_of_ble_eq_true rfl) rfl ?_
  have hwm := wm_f b hb10 hb2
  refine nk_iconst (v := 0) dX2_sizeWithin_0 (by decide) ?_
  refine nk_istore_nT (i := 3) dX2_sizeWithin_1 rfl (by decide) ?_
  refine nk_iconst (v := 0) dX2_sizeWithin_2 (by decide) ?_
  refine nk_istoreT dX2_sizeWithin_3 (by decide) ?_
  exact l_sizeWithin hk hb2 hb10 hz ha hc (nk_wm b + 1) 0 (by omega) (by omega)
set_option maxRecDepth 20000 in
theorem s_X2_size {G : nk_EG} {H : nk_AH} {q w j b : Nat} {κ : Int32} {f : Nat → Int32} (hk : cK H q w j κ b f) (hb2 : 2 ≤ b) (hb10 : b ≤ 10) (hz : gz f b) : nk_Si G mX2_size 4 [.ref q] H (nI (fb_ct (gm f) 1024)) H := by
  refine nk_S.of (by decide +kernel) (Nat.le_of_ble_eq_true rfl) rfl ?_
  have hwm := wm_f b hb10 hb2
  have hm1 := nk_m1 (n := nk_tp b) (by omega)
  refine nk_aload_n (i := 0) dX2_size_0 rfl rfl ?_
  refine nk_iconst (v := 0) dX2_size_1 (by decide) ?_
  refine nk_aload_n (i := 0) dX2_size_2 rfl rfl ?_
  refine nk_getf fX2_18 dX2_size_3 hk.1 rfl ?_
  refine nk_iconst (v := 1) dX2_size_6 (by decide) ?_
  refine nk_isub dX2_size_7 ?_
  refine nk_cVi kX2_81 (s_X2_sizeWithin hk hb2 hb10 hz (by decide) (by omega)) dX2_size_8 hk.1 rfl rfl (by decide) (Nat.le_of_ble_eq_true rfl) ?_
  refine nk_ireturn dX2_size_11 rfl ?_
  exact ⟨by rw [hm1, show (0 : Int32).toInt = 0 from rfl, cw_all hz], rfl⟩
set_option maxRecDepth 20000 in
theorem l_total {G : nk_EG} {H : nk_AH} {q w j b : Nat} {κ : Int32} {f : Nat → Int32} (hk : cK H q w j κ b f) (hb2 : 2 ≤ b) (hb10 : b ≤ 10) : ∀ (n : Nat) (k : Nat) (h1 : k ≤ nk_tp b) (h2 : nk_tp b < k + n), nk_J G mX2_total 2 (nk_ri (nI (sp_sum (gm f) (nk_tp b))) H) 0 0 4 [some (.ref q), some (.int (nI (sp_sum (gm f) k))), some (.int (nI k))] [] H := by
  intro n
  induction n with
  | zero => intro k h1 h2; omega
  | succ n ih =>
    intro k h1 h2
    have hwm := wm_f b hb10 hb2
    refine nk_iload_n (i := 2) dX2_total_4 rfl rfl ?_
    refine nk_aload_n (i := 0) dX2_total_5 rfl rfl ?_
    refine nk_getf fX2_18 dX2_total_6 hk.1 rfl ?_
    refine nk_icmpge (tgt := 34) dX2_total_9 (by decide) (fun h9 => ?_) (fun h9 => ?_)
    · skip
      refine nk_iload_n (i := 1) dX2_total_34 rfl rfl ?_
      refine nk_ireturn dX2_total_35 rfl ?_
      have e : k = nk_tp b := Nat.le_antisymm h1 (nk_leI h9 (by omega) (by omega))
      exact ⟨by rw [e], rfl⟩
    · skip
      have hkk := nk_nleI (a := nk_tp b) h9 (by omega) (by omega)
      refine nk_iload_n (i := 1) dX2_total_12 rfl rfl ?_
      refine nk_aload_n (i := 0) dX2_total_13 rfl rfl ?_
      refine nk_iload_n (i := 2) dX2_total_14 rfl rfl ?_
      refine nk_cVi kX2_89 (s_X2_holds hk hb2 hb10 (k := k) (by omega)) dX2_total_15 hk.1 rfl rfl (by decide) (Nat.le_of_ble_eq_true rfl) ?_
      refine nk_ifeq (tgt := 25) dX2_total_18 (by decide) (fun h18 => ?_) (fun h18 => ?_)
      · skip
        simp only [nk_b0, Classical.not_not] at h18
        have e : nI (sp_sum (gm f) k) + 0 = nI (sp_sum (gm f) (k + 1)) := by rw [sp_sum, if_neg h18]; exact Int32.add_zero _
        refine nk_iconst (v := 0) dX2_total_25 (by decide) ?_
        refine nk_iadd dX2_total_26 ?_
        refine nk_top (y := nI (sp_sum (gm f) (k + 1))) (e) ?_
        refine nk_istore_nT (i := 1) dX2_total_27 rfl (by decide) ?_
        refine nk_iincT dX2_total_28 rfl (nk_i1 k) (by decide) ?_
        refine nk_goto (tgt := 4) dX2_total_31 (by decide) ?_
        exact ih (k + 1) (by omega) (by omega)
      · skip
        simp only [nk_b0, Classical.not_not] at h18
        have e : nI (sp_sum (gm f) k) + nI k = nI (sp_sum (gm f) (k + 1)) := by rw [sp_sum, if_pos h18, nI_add]
        refine nk_iload_n (i := 2) dX2_total_21 rfl rfl ?_
        refine nk_goto (tgt := 26) dX2_total_22 (by decide) ?_
        refine nk_iadd dX2_total_26 ?_
        refine nk_top (y := nI (sp_sum (gm f) (k + 1))) (e) ?_
        refine nk_istore_nT (i := 1) dX2_total_27 rfl (by decide) ?_
        refine nk_iincT dX2_total_28 rfl (nk_i1 k) (by decide) ?_
        refine nk_goto (tgt := 4) dX2_total_31 (by decide) ?_
        exact ih (k + 1) (by omega) (by omega)
set_option maxRecDepth 20000 in
theorem s_X2_total {G : nk_EG} {H : nk_AH} {q w j b : Nat} {κ : Int32} {f : Nat → Int32} (hk : cK H q w j κ b f) (hb2 : 2 ≤ b) (hb10 : b ≤ 10) : nk_Si G mX2_total 2 [.ref q] H (nI (sp_sum (gm f) (nk_tp b))) H := by
  refine nk_S.of (by decide +kernel) (Nat.le_of_ble_eq_true rfl) rfl ?_
  have hwm := wm_f b hb10 hb2
  refine nk_iconst (v := 0) dX2_total_0 (by decide) ?_
  refine nk_istore_nT (i := 1) dX2_total_1 rfl (by decide) ?_
  refine nk_iconst (v := 0) dX2_total_2 (by decide) ?_
  refine nk_istore_nT (i := 2) dX2_total_3 rfl (by decide) ?_
  exact l_total hk hb2 hb10 (nk_tp b + 1) 0 (by omega) (by omega)
set_option maxRecDepth 20000 in
theorem l_from {G : nk_EG} {H : nk_AH} {q w j b : Nat} {κ : Int32} {f : Nat → Int32} (hk : cK H q w j κ b f) (hb2 : 2 ≤ b) (hb10 : b ≤ 10) (hz : gz f b) {k : Nat} (hkt : k ≤ nk_tp b) : ∀ (n : Nat) (v : Nat) (l3 : Option Value) (h1 : v ≤ nk_wm b) (h2 : nk_wm b < v + n) (hI : ∀ j, k ≤ j → j < 32 * v → gm f j = false), nk_J G mX2_from 3 (nk_ri (nk_rN (nk_up (gm f) k (nk_tp b - k))) H) 0 0 5 [some (.ref q), some (.int (nI k)), some (.int (nI v)), l3] [] H := by
  intro n
  induction n with
  | zero => intro v l3 h1 h2 hI; omega
  | succ n ih =>
    intro v l3 h1 h2 hI
    have hwm := wm_f b hb10 hb2
    have hm1 := nk_m1 (n := nk_tp b) (by omega)
    have hk1 : (nI k).toInt = (k : Int) := nI_toInt (by omega)
    refine nk_iload_n (i := 2) dX2_from_5 rfl rfl ?_
    refine nk_aload_n (i := 0) dX2_from_6 rfl rfl ?_
    refine nk_getf fX2_39 dX2_from_7 hk.1 rfl ?_
    refine nk_alen 0 rfl dX2_from_10 hk.2 rfl ?_
    refine nk_top (y := nI (nk_wm b)) (nk_len _) ?_
    refine nk_icmpge (tgt := 53) dX2_from_11 (by decide) (fun h11 => ?_) (fun h11 => ?_)
    · skip
      have hv := nk_leI (a := nk_wm b) h11 (by omega) (by omega)
      have hno : nk_up (gm f) k (nk_tp b - k) = none := nk_up_no (fun j j1 j2 => hI j j1 (by omega))
      refine nk_ldc qX2_96 dX2_from_53 ?_
      refine nk_ireturn dX2_from_55 rfl ?_
      exact ⟨by rw [hno]; rfl, rfl⟩
    · skip
      have hv := nk_nleI (a := nk_wm b) h11 (by omega) (by omega)
      refine nk_aload_n (i := 0) dX2_from_14 rfl rfl ?_
      refine nk_getf fX2_39 dX2_from_15 hk.1 rfl ?_
      refine nk_iload_n (i := 2) dX2_from_18 rfl rfl ?_
      refine nk_ialdN (j := v) dX2_from_19 hk.2 (rfl) (by omega) (by omega) ?_
      refine nk_iload_n (i := 2) dX2_from_20 rfl rfl ?_
      refine nk_iload_n (i := 1) dX2_from_21 rfl rfl ?_
      refine nk_aload_n (i := 0) dX2_from_22 rfl rfl ?_
      refine nk_getf fX2_18 dX2_from_23 hk.1 rfl ?_
      refine nk_iconst (v := 1) dX2_from_26 (by decide) ?_
      refine nk_isub dX2_from_27 ?_
      refine nk_cSi kX2_56 (s_X2_spanIn (by omega) (by omega) (by omega)) dX2_from_28 rfl rfl (by decide) (Nat.le_of_ble_eq_true rfl) ?_
      refine nk_iand dX2_from_31 ?_
      refine nk_top (y := (f v &&& sw v (k : Int) ((nk_tp b : Int) - 1))) (by rw [hm1, hk1]) ?_
      refine nk_istore_nT (i := 3) dX2_from_32 rfl (by decide) ?_
      refine nk_iload_n (i := 3) dX2_from_33 rfl rfl ?_
      refine nk_ifeq (tgt := 47) dX2_from_34 (by decide) (fun h34 => ?_) (fun h34 => ?_)
      · skip
        refine nk_iincT dX2_from_47 rfl (nk_i1 v) (by decide) ?_
        refine nk_goto (tgt := 5) dX2_from_50 (by decide) ?_
        exact ih (v + 1) _ (by omega) (by omega) (fr_miss hz (by omega) hI h34)
      · skip
        obtain ⟨t, t1, t2, t3, t4⟩ := sp_lo_of h34
        refine nk_iload_n (i := 2) dX2_from_37 rfl rfl ?_
        refine nk_bipush (v := 32) dX2_from_38 (by decide) ?_
        refine nk_imul dX2_from_40 ?_
        refine nk_top (y := nI (v * 32)) (nk_x32 v) ?_
        refine nk_iload_n (i := 3) dX2_from_41 rfl rfl ?_
        refine nk_cSi kX2_93 (s_X3_leastOf) dX2_from_42 rfl rfl (by decide) (Nat.le_of_ble_eq_true rfl) ?_
        refine nk_iadd dX2_from_45 ?_
        refine nk_ireturn dX2_from_46 rfl ?_
        exact ⟨by rw [t2, nk_w32, fr_hit hI t1 t3 t4]; rfl, rfl⟩
set_option maxRecDepth 20000 in
theorem s_X2_from {G : nk_EG} {H : nk_AH} {q w j b : Nat} {κ : Int32} {f : Nat → Int32} (hk : cK H q w j κ b f) (hb2 : 2 ≤ b) (hb10 : b ≤ 10) (hz : gz f b) {k : Nat} (hkt : k ≤ nk_tp b) : nk_Si G mX2_from 3 [.ref q, .int (nI k)] H (nk_rN (nk_up (gm f) k (nk_tp b - k))) H := by
  refine nk_S.of (by decide +kernel) (Nat.le_of_ble_eq_true rfl) rfl ?_
  have hwm := wm_f b hb10 hb2
  refine nk_iload_n (i := 1) dX2_from_0 rfl rfl ?_
  refine nk_bipush (v := 32) dX2_from_1 (by decide) ?_
  refine nk_idiv dX2_from_3 (by decide) ?_
  refine nk_top (y := nI (k / 32)) (nk_d32 (by omega)) ?_
  refine nk_istore_nT (i := 2) dX2_from_4 rfl (by decide) ?_
  exact l_from hk hb2 hb10 hz hkt (nk_wm b + 1) (k / 32) _ (by omega) (by omega) (fun j j1 j2 => by omega)
set_option maxRecDepth 20000 in
theorem l_upTo {G : nk_EG} {H : nk_AH} {q w j b : Nat} {κ : Int32} {f : Nat → Int32} (hk : cK H q w j κ b f) (hb2 : 2 ≤ b) (hb10 : b ≤ 10) {a : Nat} (hat : a ≤ nk_tp b) : ∀ (n : Nat) (v : Nat) (l3 : Option Value) (h1 : v ≤ nk_wm b) (h2 : v < n) (hI : ∀ j, 32 * v ≤ j → j < a → gm f j = false), nk_J G mX2_upTo 3 (nk_ri (nk_rN (nk_dn (gm f) a)) H) 0 0 14 [some (.ref q), some (.int (nI a - 1)), some (.int (nI v - 1)), l3] [] H := by
  intro n
  induction n with
  | zero => intro v l3 h1 h2 hI; omega
  | succ n ih =>
    intro v l3 h1 h2 hI
    have hwm := wm_f b hb10 hb2
    have hm1 := nk_m1 (n := a) (by omega)
    refine nk_iload_n (i := 2) dX2_upTo_14 rfl rfl ?_
    refine nk_iflt (tgt := 52) dX2_upTo_15 (by decide) (fun h15 => ?_) (fun h15 => ?_)
    · skip
      have hv := nk_pm0 (by omega) h15
      subst hv
      have hno : nk_dn (gm f) a = none := nk_dn_no (fun j j2 => hI j (by omega) j2)
      refine nk_ldc qX2_96 dX2_upTo_52 ?_
      refine nk_ireturn dX2_upTo_54 rfl ?_
      exact ⟨by rw [hno]; rfl, rfl⟩
    · skip
      have hv := nk_pm h15
      obtain ⟨u, rfl⟩ : ∃ u, v = u + 1 := ⟨v - 1, by omega⟩
      rw [nk_pm1 (k := u + 1) (by omega), Nat.add_sub_cancel]
      refine nk_aload_n (i := 0) dX2_upTo_18 rfl rfl ?_
      refine nk_getf fX2_39 dX2_upTo_19 hk.1 rfl ?_
      refine nk_iload_n (i := 2) dX2_upTo_22 rfl rfl ?_
      refine nk_ialdN (j := u) dX2_upTo_23 hk.2 (rfl) (by omega) (by omega) ?_
      refine nk_iload_n (i := 2) dX2_upTo_24 rfl rfl ?_
      refine nk_iconst (v := 0) dX2_upTo_25 (by decide) ?_
      refine nk_iload_n (i := 1) dX2_upTo_26 rfl rfl ?_
      refine nk_cSi kX2_56 (s_X2_spanIn (by omega) (by decide) (by omega)) dX2_upTo_27 rfl rfl (by decide) (Nat.le_of_ble_eq_true rfl) ?_
      refine nk_iand dX2_upTo_30 ?_
      refine nk_top (y := (f u &&& sw u 0 ((a : Int) - 1))) (by rw [hm1, show (0 : Int32).toInt = 0 from rfl]) ?_
      refine nk_istore_nT (i := 3) dX2_upTo_31 rfl (by decide) ?_
      refine nk_iload_n (i := 3) dX2_upTo_32 rfl rfl ?_
      refine nk_ifeq (tgt := 46) dX2_upTo_33 (by decide) (fun h33 => ?_) (fun h33 => ?_)
      · skip
        refine nk_iincT dX2_upTo_46 rfl (nk_i1m u) (by decide) ?_
        refine nk_goto (tgt := 14) dX2_upTo_49 (by decide) ?_
        exact ih u _ (by omega) (by omega) (up_miss hI h33)
      · skip
        obtain ⟨t, t1, t2, t3, t4⟩ := sp_hi_of h33
        refine nk_iload_n (i := 2) dX2_upTo_36 rfl rfl ?_
        refine nk_bipush (v := 32) dX2_upTo_37 (by decide) ?_
        refine nk_imul dX2_upTo_39 ?_
        refine nk_top (y := nI (u * 32)) (nk_x32 u) ?_
        refine nk_iload_n (i := 3) dX2_upTo_40 rfl rfl ?_
        refine nk_cSi kX2_97 (s_X3_greatestOf) dX2_upTo_41 rfl rfl (by decide) (Nat.le_of_ble_eq_true rfl) ?_
        refine nk_iadd dX2_upTo_44 ?_
        refine nk_ireturn dX2_upTo_45 rfl ?_
        exact ⟨by rw [t2, nk_w32, up_hit hI t1 t3 t4]; rfl, rfl⟩
set_option maxRecDepth 20000 in
theorem s_X2_upTo {G : nk_EG} {H : nk_AH} {q w j b : Nat} {κ : Int32} {f : Nat → Int32} (hk : cK H q w j κ b f) (hb2 : 2 ≤ b) (hb10 : b ≤ 10) {a : Nat} (hat : a ≤ nk_tp b) : nk_Si G mX2_upTo 3 [.ref q, .int (nI a - 1)] H (nk_rN (nk_dn (gm f) a)) H := by
  refine nk_S.of (by decide +kernel) (Nat.le_of_ble_eq_true rfl) rfl ?_
  have hwm := wm_f b hb10 hb2
  refine nk_iload_n (i := 1) dX2_upTo_0 rfl rfl ?_
  refine nk_iconst (v := 5) dX2_upTo_1 (by decide) ?_
  refine nk_ishr dX2_upTo_2 ?_
  refine nk_aload_n (i := 0) dX2_upTo_3 rfl rfl ?_
  refine nk_getf fX2_39 dX2_upTo_4 hk.1 rfl ?_
  refine nk_alen 0 rfl dX2_upTo_7 hk.2 rfl ?_
  refine nk_top (y := nI (nk_wm b)) (nk_len _) ?_
  refine nk_iconst (v := 1) dX2_upTo_8 (by decide) ?_
  refine nk_isub dX2_upTo_9 ?_
  refine nk_cSi kX2_49 (s_J9_min_7cf53) dX2_upTo_10 rfl rfl (by decide) (Nat.le_of_ble_eq_true rfl) ?_
  refine nk_top (y := nI (up_v a) - 1) (up_v0 hb2 hb10 hat) ?_
  refine nk_istore_nT (i := 2) dX2_upTo_13 rfl (by decide) ?_
  exact l_upTo hk hb2 hb10 hat (up_v a + 1) (up_v a) _ (up_v1 hb2 hb10 hat) (by omega) (fun j j1 j2 => by have := up_v2 a; omega)

/-! the reference: rows -/
set_option maxRecDepth 20000 in
theorem l_X8_row {G : nk_EG} {ad : Nat → Nat} {A : Nat → Nat → Int32} {I : Nat → Int32} (hi : mInj ad) {j : Nat} {l x : Int32} {Φ : Option Value → nk_AH → Prop} (hj : j < 8) (kk : nk_J G mX8_row 3 Φ 0 0 81 [some (.ref (ad 0)), some (.int (nI j)), some (.int l), some (.int x), some (.int (nI 40))] [] (mh ad (va_up A 4 (pf_zf (A 4) (40 * j) 40)) I)) : ∀ (n : Nat) (k : Nat) (h1 : k ≤ 40) (h2 : 40 < k + n), nk_J G mX8_row 3 (Φ) 0 0 55 [some (.ref (ad 0)), some (.int (nI j)), some (.int l), some (.int x), some (.int (nI k))] [] (mh ad (va_up A 4 (pf_zf (A 4) (40 * j) k)) I) := by
  intro n
  induction n with
  | zero => intro k h1 h2; omega
  | succ n ih =>
    intro k h1 h2
    refine nk_iload dX8_row_55 rfl ?_
    refine nk_bipush (v := 40) dX8_row_57 (by decide) ?_
    refine nk_icmpge (tgt := 81) dX8_row_59 (by decide) (fun h59 => ?_) (fun h59 => ?_)
    · skip
      have e2 : k = 40 := Nat.le_antisymm h1 (nk_leI (a := 40) h59 (by omega) (by omega))
      subst e2
      exact kk
    · skip
      have hk := nk_nleI (a := 40) h59 (by omega) (by omega)
      refine nk_aload_n (i := 0) dX8_row_62 rfl rfl ?_
      refine nk_getf fX8_23 dX8_row_63 mh_0 rfl ?_
      refine nk_bipush (v := 40) dX8_row_66 (by decide) ?_
      refine nk_iload_n (i := 1) dX8_row_68 rfl rfl ?_
      refine nk_imul dX8_row_69 ?_
      refine nk_iload dX8_row_70 rfl ?_
      refine nk_iadd dX8_row_72 ?_
      refine nk_iconst (v := 0) dX8_row_73 (by decide) ?_
      refine nk_iastN (j := 40 * j + k) dX8_row_74 (mh_5 hi) (nk_i40 j k) (by omega) (by decide) ?_
      refine nk_J.to ?_ rfl rfl (mu_A4 hi)
      refine nk_iincT dX8_row_75 rfl (nk_i1 k) (by decide) ?_
      refine nk_goto (tgt := 55) dX8_row_78 (by decide) ?_
      exact (ih (k + 1) (by omega) (by omega)).to rfl rfl (by rw [bx_uu]; exact congrArg (fun z => mh ad (va_up A 4 z) I) (pf_zf_s (A 4) (40 * j) k))
set_option maxRecDepth 20000 in
theorem s_X8_row {G : nk_EG} {ad : Nat → Nat} {A : Nat → Nat → Int32} {I : Nat → Int32} (hi : mInj ad) {r l x : Int32} : nk_Si G mX8_row 3 [.ref (ad 0), .int r, .int l, .int x] (mh ad A I) (sp_val (f_row r l x) x) (mh ad (sp_A (f_row r l x) A (a_row A (sp_n r) l x)) (sp_I (f_row r l x) I)) := by
  refine nk_S.of (by decide +kernel) (Nat.le_of_ble_eq_true rfl) rfl ?_
  refine nk_iload_n (i := 1) dX8_row_0 rfl rfl ?_
  refine nk_cSi kX8_43 (s_X8_isRow) dX8_row_1 rfl rfl (by decide) (Nat.le_of_ble_eq_true rfl) ?_
  refine nk_ifeq (tgt := 25) dX8_row_4 (by decide) (fun h4 => ?_) (fun h4 => ?_)
  · skip
    simp only [nk_b0, Int32.toInt_toInt64, Classical.not_not, nk_l0, nk_l1, nk_l2, nk_l255] at h4
    refine nk_ldc qX8_49 dX8_row_25 ?_
    refine nk_ireturn dX8_row_27 rfl ?_
    first
    | (have hf : f_row r l x = (-1) := by unfold f_row; rw [if_neg h4]
       exact ⟨by rw [hf, sp_val_b], by rw [hf, sp_I_b, sp_A_b]⟩)
    | (have hf : f_row r l x = (-1) := by unfold f_row; rw [if_pos h4, if_neg h16]
       exact ⟨by rw [hf, sp_val_b], by rw [hf, sp_I_b, sp_A_b]⟩)
    | (have hf : f_row r l x = (-1) := by unfold f_row; rw [if_pos h4, if_pos h16, if_neg h22]
       exact ⟨by rw [hf, sp_val_b], by rw [hf, sp_I_b, sp_A_b]⟩)
    | (have hf : f_row r l x = 4 := by unfold f_row; rw [if_pos h4, if_pos h16, if_pos h22, if_neg h29]
       exact ⟨by rw [hf, sp_val_4], by rw [hf, sp_I_4, sp_A_4]⟩)
  · skip
    simp only [nk_b0, Int32.toInt_toInt64, Classical.not_not, nk_l0, nk_l1, nk_l2, nk_l255] at h4
    refine nk_iload_n (i := 2) dX8_row_7 rfl rfl ?_
    refine nk_i2l dX8_row_8 ?_
    refine nk_lconst (v := 0) dX8_row_9 rfl ?_
    refine nk_ldc2 qX8_47 dX8_row_10 ?_
    refine nk_cSi kX8_39 (s_X8_in) dX8_row_13 rfl rfl (by decide) (Nat.le_of_ble_eq_true rfl) ?_
    refine nk_ifeq (tgt := 25) dX8_row_16 (by decide) (fun h16 => ?_) (fun h16 => ?_)
    · skip
      simp only [nk_b0, Int32.toInt_toInt64, Classical.not_not, nk_l0, nk_l1, nk_l2, nk_l255] at h16
      refine nk_ldc qX8_49 dX8_row_25 ?_
      refine nk_ireturn dX8_row_27 rfl ?_
      first
      | (have hf : f_row r l x = (-1) := by unfold f_row; rw [if_neg h4]
         exact ⟨by rw [hf, sp_val_b], by rw [hf, sp_I_b, sp_A_b]⟩)
      | (have hf : f_row r l x = (-1) := by unfold f_row; rw [if_pos h4, if_neg h16]
         exact ⟨by rw [hf, sp_val_b], by rw [hf, sp_I_b, sp_A_b]⟩)
      | (have hf : f_row r l x = (-1) := by unfold f_row; rw [if_pos h4, if_pos h16, if_neg h22]
         exact ⟨by rw [hf, sp_val_b], by rw [hf, sp_I_b, sp_A_b]⟩)
      | (have hf : f_row r l x = 4 := by unfold f_row; rw [if_pos h4, if_pos h16, if_pos h22, if_neg h29]
         exact ⟨by rw [hf, sp_val_4], by rw [hf, sp_I_4, sp_A_4]⟩)
    · skip
      simp only [nk_b0, Int32.toInt_toInt64, Classical.not_not, nk_l0, nk_l1, nk_l2, nk_l255] at h16
      refine nk_iload_n (i := 3) dX8_row_19 rfl rfl ?_
      refine nk_bipush (v := 40) dX8_row_20 (by decide) ?_
      refine nk_icmple (tgt := 28) dX8_row_22 (by decide) (fun h22 => ?_) (fun h22 => ?_)
      · skip
        refine nk_iload_n (i := 3) dX8_row_28 rfl rfl ?_
        refine nk_ifge (tgt := 38) dX8_row_29 (by decide) (fun h29 => ?_) (fun h29 => ?_)
        · skip
          obtain ⟨j, hj, rfl⟩ := nk_getR (n := 7) h4
          refine nk_aload_n (i := 0) dX8_row_38 rfl rfl ?_
          refine nk_getf fX8_17 dX8_row_39 mh_0 rfl ?_
          refine nk_iload_n (i := 1) dX8_row_42 rfl rfl ?_
          refine nk_iload_n (i := 2) dX8_row_43 rfl rfl ?_
          refine nk_iastN (j := j) dX8_row_44 (mh_3 hi) (rfl) (by omega) (by decide) ?_
          refine nk_J.to ?_ rfl rfl (mu_A2 hi)
          refine nk_aload_n (i := 0) dX8_row_45 rfl rfl ?_
          refine nk_getf fX8_20 dX8_row_46 mh_0 rfl ?_
          refine nk_iload_n (i := 1) dX8_row_49 rfl rfl ?_
          refine nk_iload_n (i := 3) dX8_row_50 rfl rfl ?_
          refine nk_iastN (j := j) dX8_row_51 (mh_4 hi) (rfl) (by omega) (by decide) ?_
          refine nk_J.to ?_ rfl rfl (mu_A3 hi)
          refine nk_iconst (v := 0) dX8_row_52 (by decide) ?_
          refine nk_istoreT dX8_row_53 (by decide) ?_
          refine (l_X8_row hi (by omega) ?_ 41 0 (by omega) (by omega)).to rfl rfl (by rw [pf_zf_0, va_up_same])
          refine nk_aload_n (i := 0) dX8_row_81 rfl rfl ?_
          refine nk_iload_n (i := 3) dX8_row_82 rfl rfl ?_
          refine nk_cVi kX8_54 (s_X8_well hi) dX8_row_83 mh_0 rfl rfl (by decide) (Nat.le_of_ble_eq_true rfl) ?_
          refine nk_ireturn dX8_row_86 rfl ?_
          have hf : f_row (nI j) l x = 0 := by unfold f_row; rw [if_pos h4, if_pos h16, if_pos h22, if_pos h29]
          exact ⟨by rw [hf, sp_val_0], by rw [hf, sp_I_0, sp_A_0, sp_n_nI (by omega)]; rfl⟩
        · skip
          refine nk_aload_n (i := 0) dX8_row_32 rfl rfl ?_
          refine nk_iconst (v := 4) dX8_row_33 (by decide) ?_
          refine nk_cVi kX8_50 (s_X8_find hi) dX8_row_34 mh_0 rfl rfl (by decide) (Nat.le_of_ble_eq_true rfl) ?_
          refine nk_ireturn dX8_row_37 rfl ?_
          first
          | (have hf : f_row r l x = (-1) := by unfold f_row; rw [if_neg h4]
             exact ⟨by rw [hf, sp_val_b], by rw [hf, sp_I_b, sp_A_b]⟩)
          | (have hf : f_row r l x = (-1) := by unfold f_row; rw [if_pos h4, if_neg h16]
             exact ⟨by rw [hf, sp_val_b], by rw [hf, sp_I_b, sp_A_b]⟩)
          | (have hf : f_row r l x = (-1) := by unfold f_row; rw [if_pos h4, if_pos h16, if_neg h22]
             exact ⟨by rw [hf, sp_val_b], by rw [hf, sp_I_b, sp_A_b]⟩)
          | (have hf : f_row r l x = 4 := by unfold f_row; rw [if_pos h4, if_pos h16, if_pos h22, if_neg h29]
             exact ⟨by rw [hf, sp_val_4], by rw [hf, sp_I_4, sp_A_4]⟩)
      · skip
        refine nk_ldc qX8_49 dX8_row_25 ?_
        refine nk_ireturn dX8_row_27 rfl ?_
        first
        | (have hf : f_row r l x = (-1) := by unfold f_row; rw [if_neg h4]
           exact ⟨by rw [hf, sp_val_b], by rw [hf, sp_I_b, sp_A_b]⟩)
        | (have hf : f_row r l x = (-1) := by unfold f_row; rw [if_pos h4, if_neg h16]
           exact ⟨by rw [hf, sp_val_b], by rw [hf, sp_I_b, sp_A_b]⟩)
        | (have hf : f_row r l x = (-1) := by unfold f_row; rw [if_pos h4, if_pos h16, if_neg h22]
           exact ⟨by rw [hf, sp_val_b], by rw [hf, sp_I_b, sp_A_b]⟩)
        | (have hf : f_row r l x = 4 := by unfold f_row; rw [if_pos h4, if_pos h16, if_pos h22, if_neg h29]
           exact ⟨by rw [hf, sp_val_4], by rw [hf, sp_I_4, sp_A_4]⟩)
set_option maxRecDepth 20000 in
theorem s_X8_set {G : nk_EG} {ad : Nat → Nat} {A : Nat → Nat → Int32} {I : Nat → Int32} (hi : mInj ad) (hR : mRw A) {r i x : Int32} : nk_Si G mX8_set 3 [.ref (ad 0), .int r, .int i, .int x] (mh ad A I) (sp_val (f_set A r i) (pf_nar x (A 2 (sp_n r)))) (mh ad (sp_A (f_set A r i) A (a_set A (sp_n r) (sp_n i) x)) (sp_I (f_set A r i) I)) := by
  refine nk_S.of (by decide +kernel) (Nat.le_of_ble_eq_true rfl) rfl ?_
  refine nk_iload_n (i := 1) dX8_set_0 rfl rfl ?_
  refine nk_cSi kX8_43 (s_X8_isRow) dX8_set_1 rfl rfl (by decide) (Nat.le_of_ble_eq_true rfl) ?_
  refine nk_ifne (tgt := 10) dX8_set_4 (by decide) (fun h4 => ?_) (fun h4 => ?_)
  · skip
    simp only [nk_b0, Int32.toInt_toInt64, Classical.not_not, nk_l0, nk_l1, nk_l2, nk_l255] at h4
    obtain ⟨j, hj, rfl⟩ := nk_getR (n := 7) h4
    have hRj := hR j (by omega)
    refine nk_aload_n (i := 0) dX8_set_10 rfl rfl ?_
    refine nk_getf fX8_20 dX8_set_11 mh_0 rfl ?_
    refine nk_iload_n (i := 1) dX8_set_14 rfl rfl ?_
    refine nk_ialdN (j := j) dX8_set_15 (mh_4 hi) (rfl) (by omega) (by decide) ?_
    refine nk_ifge (tgt := 25) dX8_set_16 (by decide) (fun h16 => ?_) (fun h16 => ?_)
    · skip
      refine nk_iload_n (i := 2) dX8_set_25 rfl rfl ?_
      refine nk_i2l dX8_set_26 ?_
      refine nk_lconst (v := 0) dX8_set_27 rfl ?_
      refine nk_aload_n (i := 0) dX8_set_28 rfl rfl ?_
      refine nk_getf fX8_20 dX8_set_29 mh_0 rfl ?_
      refine nk_iload_n (i := 1) dX8_set_32 rfl rfl ?_
      refine nk_ialdN (j := j) dX8_set_33 (mh_4 hi) (rfl) (by omega) (by decide) ?_
      refine nk_iconst (v := 1) dX8_set_34 (by decide) ?_
      refine nk_isub dX8_set_35 ?_
      refine nk_i2l dX8_set_36 ?_
      refine nk_cSi kX8_39 (s_X8_in) dX8_set_37 rfl rfl (by decide) (Nat.le_of_ble_eq_true rfl) ?_
      refine nk_ifne (tgt := 49) dX8_set_40 (by decide) (fun h40 => ?_) (fun h40 => ?_)
      · skip
        simp only [nk_b0, Int32.toInt_toInt64, Classical.not_not, nk_l0] at h40; rw [nk_sub1 _ (hR j (by omega)).1] at h40
        have h40 : 0 ≤ i.toInt ∧ i.toInt < (A 3 j).toInt := ⟨h40.1, by omega⟩
        obtain ⟨q, hq, rfl⟩ := nk_getN (x := i) (n := 40) ⟨h40.1, by omega⟩
        refine nk_aload_n (i := 0) dX8_set_49 rfl rfl ?_
        refine nk_getf fX8_23 dX8_set_50 mh_0 rfl ?_
        refine nk_bipush (v := 40) dX8_set_53 (by decide) ?_
        refine nk_iload_n (i := 1) dX8_set_55 rfl rfl ?_
        refine nk_imul dX8_set_56 ?_
        refine nk_iload_n (i := 2) dX8_set_57 rfl rfl ?_
        refine nk_iadd dX8_set_58 ?_
        refine nk_iload_n (i := 3) dX8_set_59 rfl rfl ?_
        refine nk_aload_n (i := 0) dX8_set_60 rfl rfl ?_
        refine nk_getf fX8_17 dX8_set_61 mh_0 rfl ?_
        refine nk_iload_n (i := 1) dX8_set_64 rfl rfl ?_
        refine nk_ialdN (j := j) dX8_set_65 (mh_3 hi) (rfl) (by omega) (by decide) ?_
        refine nk_cSi kX8_57 (s_X8_narrow) dX8_set_66 rfl rfl (by decide) (Nat.le_of_ble_eq_true rfl) ?_
        refine nk_iastN (j := 40 * j + q) dX8_set_69 (mh_5 hi) (nk_i40 j q) (by omega) (by decide) ?_
        refine nk_J.to ?_ rfl rfl (mu_A4 hi)
        refine nk_aload_n (i := 0) dX8_set_70 rfl rfl ?_
        refine nk_aload_n (i := 0) dX8_set_71 rfl rfl ?_
        refine nk_getf fX8_23 dX8_set_72 mh_0 rfl ?_
        refine nk_bipush (v := 40) dX8_set_75 (by decide) ?_
        refine nk_iload_n (i := 1) dX8_set_77 rfl rfl ?_
        refine nk_imul dX8_set_78 ?_
        refine nk_iload_n (i := 2) dX8_set_79 rfl rfl ?_
        refine nk_iadd dX8_set_80 ?_
        refine nk_ialdN (j := 40 * j + q) dX8_set_81 (mh_5 hi) (nk_i40 j q) (by omega) (by decide) ?_
        refine nk_top (y := pf_nar x (A 2 j)) (pk_us) ?_
        refine nk_cVi kX8_54 (s_X8_well hi) dX8_set_82 mh_0 rfl rfl (by decide) (Nat.le_of_ble_eq_true rfl) ?_
        refine nk_ireturn dX8_set_85 rfl ?_
        have hf : f_set A (nI j) (nI q) = 0 := by unfold f_set; rw [if_pos h4, sp_n_nI (by omega), if_pos h16, if_pos h40]
        exact ⟨by rw [hf, sp_val_0, sp_n_nI (by omega)], by rw [hf, sp_I_0, sp_A_0, sp_n_nI (by omega), sp_n_nI (by omega)]; rfl⟩
      · skip
        simp only [nk_b0, Int32.toInt_toInt64, Classical.not_not, nk_l0] at h40; rw [nk_sub1 _ (hR j (by omega)).1] at h40
        refine nk_aload_n (i := 0) dX8_set_43 rfl rfl ?_
        refine nk_iconst (v := 2) dX8_set_44 (by decide) ?_
        refine nk_cVi kX8_50 (s_X8_find hi) dX8_set_45 mh_0 rfl rfl (by decide) (Nat.le_of_ble_eq_true rfl) ?_
        refine nk_ireturn dX8_set_48 rfl ?_
        have c : ¬ (0 ≤ i.toInt ∧ i.toInt < (A 3 j).toInt) := fun z => h40 ⟨z.1, by omega⟩
        have hf : f_set A (nI j) i = 2 := by unfold f_set; rw [if_pos h4, sp_n_nI (by omega), if_pos h16, if_neg c]
        exact ⟨by rw [hf, sp_val_2], by rw [hf, sp_I_2, sp_A_2]⟩
    · skip
      refine nk_aload_n (i := 0) dX8_set_19 rfl rfl ?_
      refine nk_iconst (v := 1) dX8_set_20 (by decide) ?_
      refine nk_cVi kX8_50 (s_X8_find hi) dX8_set_21 mh_0 rfl rfl (by decide) (Nat.le_of_ble_eq_true rfl) ?_
      refine nk_ireturn dX8_set_24 rfl ?_
      have hf : f_set A (nI j) i = 1 := by unfold f_set; rw [if_pos h4, sp_n_nI (by omega), if_neg h16]
      exact ⟨by rw [hf, sp_val_1], by rw [hf, sp_I_1, sp_A_1]⟩
  · skip
    simp only [nk_b0, Int32.toInt_toInt64, Classical.not_not, nk_l0, nk_l1, nk_l2, nk_l255] at h4
    refine nk_ldc qX8_49 dX8_set_7 ?_
    refine nk_ireturn dX8_set_9 rfl ?_
    have hf : f_set A r i = (-1) := by unfold f_set; rw [if_neg h4]
    exact ⟨by rw [hf, sp_val_b], by rw [hf, sp_I_b, sp_A_b]⟩
set_option maxRecDepth 20000 in
theorem s_X8_drop {G : nk_EG} {ad : Nat → Nat} {A : Nat → Nat → Int32} {I : Nat → Int32} (hi : mInj ad) {r : Int32} : nk_Si G mX8_drop 3 [.ref (ad 0), .int r] (mh ad A I) (sp_val (f_drop A r) (A 3 (sp_n r))) (mh ad (sp_A (f_drop A r) A (va_up A 3 (upd (A 3) (sp_n r) (-1)))) (sp_I (f_drop A r) I)) := by
  refine nk_S.of (by decide +kernel) (Nat.le_of_ble_eq_true rfl) rfl ?_
  refine nk_iload_n (i := 1) dX8_drop_0 rfl rfl ?_
  refine nk_cSi kX8_43 (s_X8_isRow) dX8_drop_1 rfl rfl (by decide) (Nat.le_of_ble_eq_true rfl) ?_
  refine nk_ifne (tgt := 10) dX8_drop_4 (by decide) (fun h4 => ?_) (fun h4 => ?_)
  · skip
    simp only [nk_b0, Int32.toInt_toInt64, Classical.not_not, nk_l0, nk_l1, nk_l2, nk_l255] at h4
    obtain ⟨j, hj, rfl⟩ := nk_getR (n := 7) h4
    refine nk_aload_n (i := 0) dX8_drop_10 rfl rfl ?_
    refine nk_getf fX8_20 dX8_drop_11 mh_0 rfl ?_
    refine nk_iload_n (i := 1) dX8_drop_14 rfl rfl ?_
    refine nk_ialdN (j := j) dX8_drop_15 (mh_4 hi) (rfl) (by omega) (by decide) ?_
    refine nk_ifge (tgt := 25) dX8_drop_16 (by decide) (fun h16 => ?_) (fun h16 => ?_)
    · skip
      refine nk_aload_n (i := 0) dX8_drop_25 rfl rfl ?_
      refine nk_getf fX8_20 dX8_drop_26 mh_0 rfl ?_
      refine nk_iload_n (i := 1) dX8_drop_29 rfl rfl ?_
      refine nk_ialdN (j := j) dX8_drop_30 (mh_4 hi) (rfl) (by omega) (by decide) ?_
      refine nk_istore_nT (i := 2) dX8_drop_31 rfl (by decide) ?_
      refine nk_aload_n (i := 0) dX8_drop_32 rfl rfl ?_
      refine nk_getf fX8_20 dX8_drop_33 mh_0 rfl ?_
      refine nk_iload_n (i := 1) dX8_drop_36 rfl rfl ?_
      refine nk_iconst (v := -1) dX8_drop_37 (by decide) ?_
      refine nk_iastN (j := j) dX8_drop_38 (mh_4 hi) (rfl) (by omega) (by decide) ?_
      refine nk_J.to ?_ rfl rfl (mu_A3 hi)
      refine nk_aload_n (i := 0) dX8_drop_39 rfl rfl ?_
      refine nk_iload_n (i := 2) dX8_drop_40 rfl rfl ?_
      refine nk_cVi kX8_54 (s_X8_well hi) dX8_drop_41 mh_0 rfl rfl (by decide) (Nat.le_of_ble_eq_true rfl) ?_
      refine nk_ireturn dX8_drop_44 rfl ?_
      have hf : f_drop A (nI j) = 0 := by unfold f_drop; rw [if_pos h4, sp_n_nI (by omega), if_pos h16]
      exact ⟨by rw [hf, sp_val_0, sp_n_nI (by omega)], by rw [hf, sp_I_0, sp_A_0, sp_n_nI (by omega)]⟩
    · skip
      refine nk_aload_n (i := 0) dX8_drop_19 rfl rfl ?_
      refine nk_iconst (v := 1) dX8_drop_20 (by decide) ?_
      refine nk_cVi kX8_50 (s_X8_find hi) dX8_drop_21 mh_0 rfl rfl (by decide) (Nat.le_of_ble_eq_true rfl) ?_
      refine nk_ireturn dX8_drop_24 rfl ?_
      have hf : f_drop A (nI j) = 1 := by unfold f_drop; rw [if_pos h4, sp_n_nI (by omega), if_neg h16]
      exact ⟨by rw [hf, sp_val_1], by rw [hf, sp_I_1, sp_A_1]⟩
  · skip
    simp only [nk_b0, Int32.toInt_toInt64, Classical.not_not, nk_l0, nk_l1, nk_l2, nk_l255] at h4
    refine nk_ldc qX8_49 dX8_drop_7 ?_
    refine nk_ireturn dX8_drop_9 rfl ?_
    have hf : f_drop A r = (-1) := by unfold f_drop; rw [if_neg h4]
    exact ⟨by rw [hf, sp_val_b], by rw [hf, sp_I_b, sp_A_b]⟩
set_option maxRecDepth 20000 in
theorem s_X8_isSpan {G : nk_EG} {ad : Nat → Nat} {A : Nat → Nat → Int32} {I : Nat → Int32} (hi : mInj ad) {j : Nat} {i x : Int32} (hj : j < 8) : nk_Si G mX8_isSpan 1 [.ref (ad 0), .int (nI j), .int i, .int x] (mh ad A I) (if sp_sp A j i x then 1 else 0) (mh ad A I) := by
  refine nk_S.of (by decide +kernel) (Nat.le_of_ble_eq_true rfl) rfl ?_
  refine nk_iload_n (i := 2) dX8_isSpan_0 rfl rfl ?_
  refine nk_iflt (tgt := 28) dX8_isSpan_1 (by decide) (fun h1 => ?_) (fun h1 => ?_)
  · skip
    refine nk_iconst (v := 0) dX8_isSpan_28 (by decide) ?_
    refine nk_zreturn dX8_isSpan_29 rfl rfl ?_
    first
    | (refine ⟨nk_v1 ?_, rfl⟩
       exact ⟨Int32.not_lt.mp h1, Int32.not_lt.mp h5, by have c := (fa_le64 _ _).mp (Int64.not_lt.mp (fun z => h21 ((lg_cmp_gt _ _).mpr z))); rw [nk_addL, Int32.toInt_toInt64] at c; exact c⟩)
    | (refine ⟨nk_v0 (fun z => ?_), rfl⟩
       first
       | exact absurd h1 (Int32.not_lt.mpr z.1)
       | exact absurd h5 (Int32.not_lt.mpr z.2.1)
       | (have c := (fa_lt64 _ _).mp ((lg_cmp_gt _ _).mp h21)
          rw [nk_addL, Int32.toInt_toInt64] at c
          have := z.2.2
          omega))
  · skip
    refine nk_iload_n (i := 3) dX8_isSpan_4 rfl rfl ?_
    refine nk_iflt (tgt := 28) dX8_isSpan_5 (by decide) (fun h5 => ?_) (fun h5 => ?_)
    · skip
      refine nk_iconst (v := 0) dX8_isSpan_28 (by decide) ?_
      refine nk_zreturn dX8_isSpan_29 rfl rfl ?_
      first
      | (refine ⟨nk_v1 ?_, rfl⟩
         exact ⟨Int32.not_lt.mp h1, Int32.not_lt.mp h5, by have c := (fa_le64 _ _).mp (Int64.not_lt.mp (fun z => h21 ((lg_cmp_gt _ _).mpr z))); rw [nk_addL, Int32.toInt_toInt64] at c; exact c⟩)
      | (refine ⟨nk_v0 (fun z => ?_), rfl⟩
         first
         | exact absurd h1 (Int32.not_lt.mpr z.1)
         | exact absurd h5 (Int32.not_lt.mpr z.2.1)
         | (have c := (fa_lt64 _ _).mp ((lg_cmp_gt _ _).mp h21)
            rw [nk_addL, Int32.toInt_toInt64] at c
            have := z.2.2
            omega))
    · skip
      refine nk_iload_n (i := 2) dX8_isSpan_8 rfl rfl ?_
      refine nk_i2l dX8_isSpan_9 ?_
      refine nk_iload_n (i := 3) dX8_isSpan_10 rfl rfl ?_
      refine nk_i2l dX8_isSpan_11 ?_
      refine nk_ladd dX8_isSpan_12 ?_
      refine nk_aload_n (i := 0) dX8_isSpan_13 rfl rfl ?_
      refine nk_getf fX8_20 dX8_isSpan_14 mh_0 rfl ?_
      refine nk_iload_n (i := 1) dX8_isSpan_17 rfl rfl ?_
      refine nk_ialdN (j := j) dX8_isSpan_18 (mh_4 hi) (rfl) (by omega) (by decide) ?_
      refine nk_i2l dX8_isSpan_19 ?_
      refine nk_lcmp dX8_isSpan_20 ?_
      refine nk_ifgt (tgt := 28) dX8_isSpan_21 (by decide) (fun h21 => ?_) (fun h21 => ?_)
      · skip
        refine nk_iconst (v := 0) dX8_isSpan_28 (by decide) ?_
        refine nk_zreturn dX8_isSpan_29 rfl rfl ?_
        first
        | (refine ⟨nk_v1 ?_, rfl⟩
           exact ⟨Int32.not_lt.mp h1, Int32.not_lt.mp h5, by have c := (fa_le64 _ _).mp (Int64.not_lt.mp (fun z => h21 ((lg_cmp_gt _ _).mpr z))); rw [nk_addL, Int32.toInt_toInt64] at c; exact c⟩)
        | (refine ⟨nk_v0 (fun z => ?_), rfl⟩
           first
           | exact absurd h1 (Int32.not_lt.mpr z.1)
           | exact absurd h5 (Int32.not_lt.mpr z.2.1)
           | (have c := (fa_lt64 _ _).mp ((lg_cmp_gt _ _).mp h21)
              rw [nk_addL, Int32.toInt_toInt64] at c
              have := z.2.2
              omega))
      · skip
        refine nk_iconst (v := 1) dX8_isSpan_24 (by decide) ?_
        refine nk_goto (tgt := 29) dX8_isSpan_25 (by decide) ?_
        refine nk_zreturn dX8_isSpan_29 rfl rfl ?_
        first
        | (refine ⟨nk_v1 ?_, rfl⟩
           exact ⟨Int32.not_lt.mp h1, Int32.not_lt.mp h5, by have c := (fa_le64 _ _).mp (Int64.not_lt.mp (fun z => h21 ((lg_cmp_gt _ _).mpr z))); rw [nk_addL, Int32.toInt_toInt64] at c; exact c⟩)
        | (refine ⟨nk_v0 (fun z => ?_), rfl⟩
           first
           | exact absurd h1 (Int32.not_lt.mpr z.1)
           | exact absurd h5 (Int32.not_lt.mpr z.2.1)
           | (have c := (fa_lt64 _ _).mp ((lg_cmp_gt _ _).mp h21)
              rw [nk_addL, Int32.toInt_toInt64] at c
              have := z.2.2
              omega))
set_option maxRecDepth 20000 in
theorem s_X8_status {G : nk_EG} {ad : Nat → Nat} {A : Nat → Nat → Int32} {I : Nat → Int32} (hi : mInj ad) : nk_Si G mX8_status 1 [.ref (ad 0)] (mh ad A I) (I 3) (mh ad A I) := by
  refine nk_S.of (by decide +kernel) (Nat.le_of_ble_eq_true rfl) rfl ?_
  refine nk_aload_n (i := 0) dX8_status_0 rfl rfl ?_
  refine nk_getf fX8_32 dX8_status_1 mh_0 rfl ?_
  refine nk_ireturn dX8_status_4 rfl ?_
  exact ⟨rfl, rfl⟩
set_option maxRecDepth 20000 in
theorem s_X8_fault {G : nk_EG} {ad : Nat → Nat} {A : Nat → Nat → Int32} {I : Nat → Int32} (hi : mInj ad) : nk_Si G mX8_fault 1 [.ref (ad 0)] (mh ad A I) (I 2) (mh ad A I) := by
  refine nk_S.of (by decide +kernel) (Nat.le_of_ble_eq_true rfl) rfl ?_
  refine nk_aload_n (i := 0) dX8_fault_0 rfl rfl ?_
  refine nk_getf fX8_113 dX8_fault_1 mh_0 rfl ?_
  refine nk_ireturn dX8_fault_4 rfl ?_
  exact ⟨rfl, rfl⟩

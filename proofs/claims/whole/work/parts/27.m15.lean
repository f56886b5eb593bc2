/-! the reference: asks, counts, images, gathers -/
set_option maxRecDepth 20000 in
theorem s_X8_isOf {G : nk_EG} {ad : Nat → Nat} {A : Nat → Nat → Int32} {I : Nat → Int32} (hi : mInj ad) {j : Nat} {x : Int32} (hj : j < 4) : nk_Si G mX8_isOf 1 [.ref (ad 0), .int (nI j), .int x] (mh ad A I) (if sp_of (A 0 (2 + j)) x then 1 else 0) (mh ad A I) := by
  refine nk_S.of (by decide +kernel) (Nat.le_of_ble_eq_true rfl) rfl ?_
  refine nk_aload_n (i := 0) dX8_isOf_0 rfl rfl ?_
  refine nk_getf fX8_7 dX8_isOf_1 mh_0 rfl ?_
  refine nk_iconst (v := 2) dX8_isOf_4 (by decide) ?_
  refine nk_iload_n (i := 1) dX8_isOf_5 rfl rfl ?_
  refine nk_iadd dX8_isOf_6 ?_
  refine nk_ialdN (j := 2 + j) dX8_isOf_7 (mh_1 hi) (nI_add 2 j) (by omega) (by decide) ?_
  refine nk_istore_nT (i := 3) dX8_isOf_8 rfl (by decide) ?_
  refine nk_iload_n (i := 2) dX8_isOf_9 rfl rfl ?_
  refine nk_ifeq (tgt := 38) dX8_isOf_10 (by decide) (fun h10 => ?_) (fun h10 => ?_)
  · skip
    refine nk_iconst (v := 1) dX8_isOf_38 (by decide) ?_
    refine nk_goto (tgt := 43) dX8_isOf_39 (by decide) ?_
    refine nk_zreturn dX8_isOf_43 rfl rfl ?_
    first
    | (refine ⟨nk_v1 ?_, rfl⟩
       first
       | exact Or.inl h10
       | exact Or.inr (Or.inl h15)
       | exact Or.inr (Or.inr (Or.inl ⟨h20, h25⟩))
       | exact Or.inr (Or.inr (Or.inr ⟨h30, h35⟩)))
    | (refine ⟨nk_v0 (fun z => ?_), rfl⟩
       rcases z with z | z | z | z
       · exact h10 z
       · exact h15 z
       · first
         | exact h20 z.1
         | exact h25 z.2
       · first
         | exact h30 z.1
         | exact h35 z.2)
  · skip
    refine nk_iload_n (i := 2) dX8_isOf_13 rfl rfl ?_
    refine nk_iload_n (i := 3) dX8_isOf_14 rfl rfl ?_
    refine nk_icmpeq (tgt := 38) dX8_isOf_15 (by decide) (fun h15 => ?_) (fun h15 => ?_)
    · skip
      refine nk_iconst (v := 1) dX8_isOf_38 (by decide) ?_
      refine nk_goto (tgt := 43) dX8_isOf_39 (by decide) ?_
      refine nk_zreturn dX8_isOf_43 rfl rfl ?_
      first
      | (refine ⟨nk_v1 ?_, rfl⟩
         first
         | exact Or.inl h10
         | exact Or.inr (Or.inl h15)
         | exact Or.inr (Or.inr (Or.inl ⟨h20, h25⟩))
         | exact Or.inr (Or.inr (Or.inr ⟨h30, h35⟩)))
      | (refine ⟨nk_v0 (fun z => ?_), rfl⟩
         rcases z with z | z | z | z
         · exact h10 z
         · exact h15 z
         · first
           | exact h20 z.1
           | exact h25 z.2
         · first
           | exact h30 z.1
           | exact h35 z.2)
    · skip
      refine nk_iload_n (i := 2) dX8_isOf_18 rfl rfl ?_
      refine nk_iconst (v := 1) dX8_isOf_19 (by decide) ?_
      refine nk_icmpne (tgt := 28) dX8_isOf_20 (by decide) (fun h20 => ?_) (fun h20 => ?_)
      · skip
        refine nk_iload_n (i := 2) dX8_isOf_28 rfl rfl ?_
        refine nk_iconst (v := 4) dX8_isOf_29 (by decide) ?_
        refine nk_icmpne (tgt := 42) dX8_isOf_30 (by decide) (fun h30 => ?_) (fun h30 => ?_)
        · skip
          refine nk_iconst (v := 0) dX8_isOf_42 (by decide) ?_
          refine nk_zreturn dX8_isOf_43 rfl rfl ?_
          first
          | (refine ⟨nk_v1 ?_, rfl⟩
             first
             | exact Or.inl h10
             | exact Or.inr (Or.inl h15)
             | exact Or.inr (Or.inr (Or.inl ⟨h20, h25⟩))
             | exact Or.inr (Or.inr (Or.inr ⟨h30, h35⟩)))
          | (refine ⟨nk_v0 (fun z => ?_), rfl⟩
             rcases z with z | z | z | z
             · exact h10 z
             · exact h15 z
             · first
               | exact h20 z.1
               | exact h25 z.2
             · first
               | exact h30 z.1
               | exact h35 z.2)
        · skip
          refine nk_iload_n (i := 3) dX8_isOf_33 rfl rfl ?_
          refine nk_iconst (v := 5) dX8_isOf_34 (by decide) ?_
          refine nk_icmpne (tgt := 42) dX8_isOf_35 (by decide) (fun h35 => ?_) (fun h35 => ?_)
          · skip
            refine nk_iconst (v := 0) dX8_isOf_42 (by decide) ?_
            refine nk_zreturn dX8_isOf_43 rfl rfl ?_
            first
            | (refine ⟨nk_v1 ?_, rfl⟩
               first
               | exact Or.inl h10
               | exact Or.inr (Or.inl h15)
               | exact Or.inr (Or.inr (Or.inl ⟨h20, h25⟩))
               | exact Or.inr (Or.inr (Or.inr ⟨h30, h35⟩)))
            | (refine ⟨nk_v0 (fun z => ?_), rfl⟩
               rcases z with z | z | z | z
               · exact h10 z
               · exact h15 z
               · first
                 | exact h20 z.1
                 | exact h25 z.2
               · first
                 | exact h30 z.1
                 | exact h35 z.2)
          · skip
            refine nk_iconst (v := 1) dX8_isOf_38 (by decide) ?_
            refine nk_goto (tgt := 43) dX8_isOf_39 (by decide) ?_
            refine nk_zreturn dX8_isOf_43 rfl rfl ?_
            first
            | (refine ⟨nk_v1 ?_, rfl⟩
               first
               | exact Or.inl h10
               | exact Or.inr (Or.inl h15)
               | exact Or.inr (Or.inr (Or.inl ⟨h20, h25⟩))
               | exact Or.inr (Or.inr (Or.inr ⟨h30, h35⟩)))
            | (refine ⟨nk_v0 (fun z => ?_), rfl⟩
               rcases z with z | z | z | z
               · exact h10 z
               · exact h15 z
               · first
                 | exact h20 z.1
                 | exact h25 z.2
               · first
                 | exact h30 z.1
                 | exact h35 z.2)
      · skip
        refine nk_iload_n (i := 3) dX8_isOf_23 rfl rfl ?_
        refine nk_iconst (v := 4) dX8_isOf_24 (by decide) ?_
        refine nk_icmplt (tgt := 38) dX8_isOf_25 (by decide) (fun h25 => ?_) (fun h25 => ?_)
        · skip
          refine nk_iconst (v := 1) dX8_isOf_38 (by decide) ?_
          refine nk_goto (tgt := 43) dX8_isOf_39 (by decide) ?_
          refine nk_zreturn dX8_isOf_43 rfl rfl ?_
          first
          | (refine ⟨nk_v1 ?_, rfl⟩
             first
             | exact Or.inl h10
             | exact Or.inr (Or.inl h15)
             | exact Or.inr (Or.inr (Or.inl ⟨h20, h25⟩))
             | exact Or.inr (Or.inr (Or.inr ⟨h30, h35⟩)))
          | (refine ⟨nk_v0 (fun z => ?_), rfl⟩
             rcases z with z | z | z | z
             · exact h10 z
             · exact h15 z
             · first
               | exact h20 z.1
               | exact h25 z.2
             · first
               | exact h30 z.1
               | exact h35 z.2)
        · skip
          refine nk_iload_n (i := 2) dX8_isOf_28 rfl rfl ?_
          refine nk_iconst (v := 4) dX8_isOf_29 (by decide) ?_
          refine nk_icmpne (tgt := 42) dX8_isOf_30 (by decide) (fun h30 => ?_) (fun h30 => ?_)
          · skip
            refine nk_iconst (v := 0) dX8_isOf_42 (by decide) ?_
            refine nk_zreturn dX8_isOf_43 rfl rfl ?_
            first
            | (refine ⟨nk_v1 ?_, rfl⟩
               first
               | exact Or.inl h10
               | exact Or.inr (Or.inl h15)
               | exact Or.inr (Or.inr (Or.inl ⟨h20, h25⟩))
               | exact Or.inr (Or.inr (Or.inr ⟨h30, h35⟩)))
            | (refine ⟨nk_v0 (fun z => ?_), rfl⟩
               rcases z with z | z | z | z
               · exact h10 z
               · exact h15 z
               · first
                 | exact h20 z.1
                 | exact h25 z.2
               · first
                 | exact h30 z.1
                 | exact h35 z.2)
          · skip
            refine nk_iload_n (i := 3) dX8_isOf_33 rfl rfl ?_
            refine nk_iconst (v := 5) dX8_isOf_34 (by decide) ?_
            refine nk_icmpne (tgt := 42) dX8_isOf_35 (by decide) (fun h35 => ?_) (fun h35 => ?_)
            · skip
              refine nk_iconst (v := 0) dX8_isOf_42 (by decide) ?_
              refine nk_zreturn dX8_isOf_43 rfl rfl ?_
              first
              | (refine ⟨nk_v1 ?_, rfl⟩
                 first
                 | exact Or.inl h10
                 | exact Or.inr (Or.inl h15)
                 | exact Or.inr (Or.inr (Or.inl ⟨h20, h25⟩))
                 | exact Or.inr (Or.inr (Or.inr ⟨h30, h35⟩)))
              | (refine ⟨nk_v0 (fun z => ?_), rfl⟩
                 rcases z with z | z | z | z
                 · exact h10 z
                 · exact h15 z
                 · first
                   | exact h20 z.1
                   | exact h25 z.2
                 · first
                   | exact h30 z.1
                   | exact h35 z.2)
            · skip
              refine nk_iconst (v := 1) dX8_isOf_38 (by decide) ?_
              refine nk_goto (tgt := 43) dX8_isOf_39 (by decide) ?_
              refine nk_zreturn dX8_isOf_43 rfl rfl ?_
              first
              | (refine ⟨nk_v1 ?_, rfl⟩
                 first
                 | exact Or.inl h10
                 | exact Or.inr (Or.inl h15)
                 | exact Or.inr (Or.inr (Or.inl ⟨h20, h25⟩))
                 | exact Or.inr (Or.inr (Or.inr ⟨h30, h35⟩)))
              | (refine ⟨nk_v0 (fun z => ?_), rfl⟩
                 rcases z with z | z | z | z
                 · exact h10 z
                 · exact h15 z
                 · first
                   | exact h20 z.1
                   | exact h25 z.2
                 · first
                   | exact h30 z.1
                   | exact h35 z.2)
set_option maxRecDepth 20000 in
theorem s_X8_as {G : nk_EG} {ad : Nat → Nat} {A : Nat → Nat → Int32} {I : Nat → Int32} (hi : mInj ad) {m b : Nat} (hm : mSh (A 0) 0 m b) {s x : Int32} : nk_Si G mX8_as 3 [.ref (ad 0), .int s, .int x] (mh ad A I) (sp_val (f_as m (fun j => A 0 (2 + j)) s x) s) (mh ad A (sp_I (f_as m (fun j => A 0 (2 + j)) s x) I)) := by
  have h4 := hm.2.2.1
  have h10 := hm.2.2.2
  have ht := nk_tp_le h10
  refine nk_S.of (by decide +kernel) (Nat.le_of_ble_eq_true rfl) rfl ?_
  refine nk_aload_n (i := 0) dX8_as_0 rfl rfl ?_
  refine nk_iload_n (i := 1) dX8_as_1 rfl rfl ?_
  refine nk_cVi kX8_154 (s_X8_isSet hi hm.1 hm.2.2.1) dX8_as_2 mh_0 rfl rfl (by decide) (Nat.le_of_ble_eq_true rfl) ?_
  refine nk_ifeq (tgt := 20) dX8_as_5 (by decide) (fun h5 => ?_) (fun h5 => ?_)
  · skip
    try simp only [nk_b0, Int32.toInt_toInt64, Classical.not_not, nk_l0, nk_l1, nk_l2, nk_l3, nk_l5, nk_l9, nk_l9m, nk_l40, nk_l255] at h5
    refine nk_ldc qX8_49 dX8_as_20 ?_
    refine nk_ireturn dX8_as_22 rfl ?_
    first
    | (have hf : f_as m (fun j => A 0 (2 + j)) s x = (-1) := by unfold f_as; rw [if_neg h5]
       exact ⟨by rw [hf, sp_val_b], by rw [hf, sp_I_b]⟩)
    | (have hf : f_as m (fun j => A 0 (2 + j)) s x = (-1) := by unfold f_as; rw [if_pos h5, if_neg h17]
       exact ⟨by rw [hf, sp_val_b], by rw [hf, sp_I_b]⟩)
  · skip
    try simp only [nk_b0, Int32.toInt_toInt64, Classical.not_not, nk_l0, nk_l1, nk_l2, nk_l3, nk_l5, nk_l9, nk_l9m, nk_l40, nk_l255] at h5
    refine nk_iload_n (i := 2) dX8_as_8 rfl rfl ?_
    refine nk_i2l dX8_as_9 ?_
    refine nk_lconst (v := 0) dX8_as_10 rfl ?_
    refine nk_ldc2 qX8_308 dX8_as_11 ?_
    refine nk_cSi kX8_39 (s_X8_in) dX8_as_14 rfl rfl (by decide) (Nat.le_of_ble_eq_true rfl) ?_
    refine nk_ifne (tgt := 23) dX8_as_17 (by decide) (fun h17 => ?_) (fun h17 => ?_)
    · skip
      try simp only [nk_b0, Int32.toInt_toInt64, Classical.not_not, nk_l0, nk_l1, nk_l2, nk_l3, nk_l5, nk_l9, nk_l9m, nk_l40, nk_l255] at h17
      obtain ⟨j, hj, rfl⟩ := nk_getN h5
      refine nk_aload_n (i := 0) dX8_as_23 rfl rfl ?_
      refine nk_iload_n (i := 1) dX8_as_24 rfl rfl ?_
      refine nk_iload_n (i := 2) dX8_as_25 rfl rfl ?_
      refine nk_cVi kX8_310 (s_X8_isOf hi (by omega)) dX8_as_26 mh_0 rfl rfl (by decide) (Nat.le_of_ble_eq_true rfl) ?_
      refine nk_ifeq (tgt := 40) dX8_as_29 (by decide) (fun h29 => ?_) (fun h29 => ?_)
      · skip
        try simp only [nk_b0, Int32.toInt_toInt64, Classical.not_not, nk_l0, nk_l1, nk_l2, nk_l3, nk_l5, nk_l9, nk_l9m, nk_l40, nk_l255] at h29
        refine nk_aload_n (i := 0) dX8_as_40 rfl rfl ?_
        refine nk_iconst (v := 3) dX8_as_41 (by decide) ?_
        refine nk_cVi kX8_50 (s_X8_find hi) dX8_as_42 mh_0 rfl rfl (by decide) (Nat.le_of_ble_eq_true rfl) ?_
        refine nk_ireturn dX8_as_45 rfl ?_
        first
        | (have hf : f_as m (fun j => A 0 (2 + j)) (nI j) x = 0 := by unfold f_as; rw [if_pos h5, if_pos h17, sp_n_nI (by omega), if_pos h29]
           exact ⟨by rw [hf, sp_val_0], by rw [hf, sp_I_0]⟩)
        | (have hf : f_as m (fun j => A 0 (2 + j)) (nI j) x = 3 := by unfold f_as; rw [if_pos h5, if_pos h17, sp_n_nI (by omega), if_neg h29]
           exact ⟨by rw [hf, sp_val_3], by rw [hf, sp_I_3]⟩)
      · skip
        try simp only [nk_b0, Int32.toInt_toInt64, Classical.not_not, nk_l0, nk_l1, nk_l2, nk_l3, nk_l5, nk_l9, nk_l9m, nk_l40, nk_l255] at h29
        refine nk_aload_n (i := 0) dX8_as_32 rfl rfl ?_
        refine nk_iload_n (i := 1) dX8_as_33 rfl rfl ?_
        refine nk_cVi kX8_54 (s_X8_well hi) dX8_as_34 mh_0 rfl rfl (by decide) (Nat.le_of_ble_eq_true rfl) ?_
        refine nk_goto (tgt := 45) dX8_as_37 (by decide) ?_
        refine nk_ireturn dX8_as_45 rfl ?_
        first
        | (have hf : f_as m (fun j => A 0 (2 + j)) (nI j) x = 0 := by unfold f_as; rw [if_pos h5, if_pos h17, sp_n_nI (by omega), if_pos h29]
           exact ⟨by rw [hf, sp_val_0], by rw [hf, sp_I_0]⟩)
        | (have hf : f_as m (fun j => A 0 (2 + j)) (nI j) x = 3 := by unfold f_as; rw [if_pos h5, if_pos h17, sp_n_nI (by omega), if_neg h29]
           exact ⟨by rw [hf, sp_val_3], by rw [hf, sp_I_3]⟩)
    · skip
      try simp only [nk_b0, Int32.toInt_toInt64, Classical.not_not, nk_l0, nk_l1, nk_l2, nk_l3, nk_l5, nk_l9, nk_l9m, nk_l40, nk_l255] at h17
      refine nk_ldc qX8_49 dX8_as_20 ?_
      refine nk_ireturn dX8_as_22 rfl ?_
      first
      | (have hf : f_as m (fun j => A 0 (2 + j)) s x = (-1) := by unfold f_as; rw [if_neg h5]
         exact ⟨by rw [hf, sp_val_b], by rw [hf, sp_I_b]⟩)
      | (have hf : f_as m (fun j => A 0 (2 + j)) s x = (-1) := by unfold f_as; rw [if_pos h5, if_neg h17]
         exact ⟨by rw [hf, sp_val_b], by rw [hf, sp_I_b]⟩)
set_option maxRecDepth 20000 in
theorem s_X8_ask {G : nk_EG} {ad : Nat → Nat} {A : Nat → Nat → Int32} {I : Nat → Int32} (hi : mInj ad) {m b : Nat} (hm : mSh (A 0) 0 m b) {s x : Int32} : nk_Si G mX8_ask 10 [.ref (ad 0), .int s, .int x] (mh ad A I) (sp_ask m b (nk_mem (A 0) 0) (fun j => A 0 (2 + j)) s x) (mh ad (a_ask m (fun j => A 0 (2 + j)) s x A) (i_ask m (fun j => A 0 (2 + j)) s x I)) := by
  have h4 := hm.2.2.1
  have h10 := hm.2.2.2
  have ht := nk_tp_le h10
  refine nk_S.of (by decide +kernel) (Nat.le_of_ble_eq_true rfl) rfl ?_
  refine nk_aload_n (i := 0) dX8_ask_0 rfl rfl ?_
  refine nk_iload_n (i := 1) dX8_ask_1 rfl rfl ?_
  refine nk_cVi kX8_154 (s_X8_isSet hi hm.1 hm.2.2.1) dX8_ask_2 mh_0 rfl rfl (by decide) (Nat.le_of_ble_eq_true rfl) ?_
  refine nk_ifeq (tgt := 18) dX8_ask_5 (by decide) (fun h5 => ?_) (fun h5 => ?_)
  · skip
    try simp only [nk_b0, Int32.toInt_toInt64, Classical.not_not, nk_l0, nk_l1, nk_l2, nk_l3, nk_l5, nk_l9, nk_l9m, nk_l40, nk_l255] at h5
    refine nk_ldc qX8_49 dX8_ask_18 ?_
    refine nk_ireturn dX8_ask_20 rfl ?_
    have cc : ¬ c_ask m s x := fun z => by
      first
      | exact h5 z.1
      | exact h15 z.2
    exact ⟨by unfold sp_ask; rw [if_neg cc], by unfold a_ask i_ask; rw [if_neg cc, if_neg cc]⟩
  · skip
    try simp only [nk_b0, Int32.toInt_toInt64, Classical.not_not, nk_l0, nk_l1, nk_l2, nk_l3, nk_l5, nk_l9, nk_l9m, nk_l40, nk_l255] at h5
    refine nk_iload_n (i := 2) dX8_ask_8 rfl rfl ?_
    refine nk_i2l dX8_ask_9 ?_
    refine nk_lconst (v := 0) dX8_ask_10 rfl ?_
    refine nk_lconst (v := 1) dX8_ask_11 rfl ?_
    refine nk_cSi kX8_39 (s_X8_in) dX8_ask_12 rfl rfl (by decide) (Nat.le_of_ble_eq_true rfl) ?_
    refine nk_ifne (tgt := 21) dX8_ask_15 (by decide) (fun h15 => ?_) (fun h15 => ?_)
    · skip
      try simp only [nk_b0, Int32.toInt_toInt64, Classical.not_not, nk_l0, nk_l1, nk_l2, nk_l3, nk_l5, nk_l9, nk_l9m, nk_l40, nk_l255] at h15
      obtain ⟨j, hj, rfl⟩ := nk_getN h5
      have cc : c_ask m (nI j) x := ⟨h5, h15⟩
      unfold sp_ask a_ask i_ask
      rw [if_pos cc, if_pos cc, if_pos cc, sp_n_nI (by omega)]
      refine nk_aload_n (i := 0) dX8_ask_21 rfl rfl ?_
      refine nk_iconst (v := 0) dX8_ask_22 (by decide) ?_
      refine nk_putf pX8_313 dX8_ask_23 mh_0 rfl rfl (Nat.le_of_ble_eq_true rfl) rfl ?_
      refine nk_J.to ?_ rfl rfl mu_I4
      refine nk_iload_n (i := 2) dX8_ask_26 rfl rfl ?_
      refine nk_ifne (tgt := 38) dX8_ask_27 (by decide) (fun h27 => ?_) (fun h27 => ?_)
      · skip
        refine nk_aload_n (i := 0) dX8_ask_38 rfl rfl ?_
        refine nk_iload_n (i := 1) dX8_ask_39 rfl rfl ?_
        refine nk_iconst (v := 4) dX8_ask_40 (by decide) ?_
        refine nk_cVi kX8_310 (s_X8_isOf hi (by omega)) dX8_ask_41 mh_0 rfl rfl (by decide) (Nat.le_of_ble_eq_true rfl) ?_
        refine nk_ifeq (tgt := 55) dX8_ask_44 (by decide) (fun h44 => ?_) (fun h44 => ?_)
        · skip
          simp only [nk_b0, Classical.not_not] at h44
          refine nk_aload_n (i := 0) dX8_ask_55 rfl rfl ?_
          refine nk_iload_n (i := 1) dX8_ask_56 rfl rfl ?_
          refine nk_cVi kX8_323 (s_X8_aboveMark hi (I := va_up I 4 0) hm (t := 0) rfl (by omega) (by omega)) dX8_ask_57 mh_0 rfl rfl (by decide) (Nat.le_of_ble_eq_true rfl) ?_
          refine nk_ireturn dX8_ask_60 rfl ?_
          first
          | (unfold av_ask tl_ask
             rw [if_pos h27, if_pos h27]
             exact ⟨rfl, by rw [bx_uu]⟩)
          | (have c4 : A 0 (2 + j) = 4 ∨ A 0 (2 + j) = 5 := by
               rcases h44 with z | z | z | z
               · exact absurd z (by decide)
               · exact Or.inl z.symm
               · exact absurd z.1 (by decide)
               · exact Or.inr z.2
             unfold av_ask tl_ask
             rw [if_neg h27, if_pos c4, if_neg h27, if_pos c4]
             exact ⟨rfl, by rw [bx_uu]⟩)
          | (have c4 : ¬ (A 0 (2 + j) = 4 ∨ A 0 (2 + j) = 5) := fun y => h44 (y.elim (fun z => Or.inr (Or.inl z.symm)) (fun z => Or.inr (Or.inr (Or.inr ⟨rfl, z⟩))))
             unfold av_ask tl_ask
             rw [if_neg h27, if_neg c4, if_neg h27, if_neg c4]
             exact ⟨rfl, by rw [bx_uu]⟩)
        · skip
          simp only [nk_b0, Classical.not_not] at h44
          refine nk_aload_n (i := 0) dX8_ask_47 rfl rfl ?_
          refine nk_iload_n (i := 1) dX8_ask_48 rfl rfl ?_
          refine nk_cVi kX8_341 (s_X8_belowMark hi (I := va_up I 4 0) hm (t := 0) rfl (by omega) (by omega)) dX8_ask_49 mh_0 rfl rfl (by decide) (Nat.le_of_ble_eq_true rfl) ?_
          refine nk_goto (tgt := 60) dX8_ask_52 (by decide) ?_
          refine nk_ireturn dX8_ask_60 rfl ?_
          first
          | (unfold av_ask tl_ask
             rw [if_pos h27, if_pos h27]
             exact ⟨rfl, by rw [bx_uu]⟩)
          | (have c4 : A 0 (2 + j) = 4 ∨ A 0 (2 + j) = 5 := by
               rcases h44 with z | z | z | z
               · exact absurd z (by decide)
               · exact Or.inl z.symm
               · exact absurd z.1 (by decide)
               · exact Or.inr z.2
             unfold av_ask tl_ask
             rw [if_neg h27, if_pos c4, if_neg h27, if_pos c4]
             exact ⟨rfl, by rw [bx_uu]⟩)
          | (have c4 : ¬ (A 0 (2 + j) = 4 ∨ A 0 (2 + j) = 5) := fun y => h44 (y.elim (fun z => Or.inr (Or.inl z.symm)) (fun z => Or.inr (Or.inr (Or.inr ⟨rfl, z⟩))))
             unfold av_ask tl_ask
             rw [if_neg h27, if_neg c4, if_neg h27, if_neg c4]
             exact ⟨rfl, by rw [bx_uu]⟩)
      · skip
        refine nk_aload_n (i := 0) dX8_ask_30 rfl rfl ?_
        refine nk_iload_n (i := 1) dX8_ask_31 rfl rfl ?_
        refine nk_cVi kX8_338 (s_X8_sizeOf hi (I := va_up I 4 0) hm (t := 0) rfl (by omega) (by omega)) dX8_ask_32 mh_0 rfl rfl (by decide) (Nat.le_of_ble_eq_true rfl) ?_
        refine nk_goto (tgt := 60) dX8_ask_35 (by decide) ?_
        refine nk_ireturn dX8_ask_60 rfl ?_
        first
        | (unfold av_ask tl_ask
           rw [if_pos h27, if_pos h27]
           exact ⟨rfl, by rw [bx_uu]⟩)
        | (have c4 : A 0 (2 + j) = 4 ∨ A 0 (2 + j) = 5 := by
             rcases h44 with z | z | z | z
             · exact absurd z (by decide)
             · exact Or.inl z.symm
             · exact absurd z.1 (by decide)
             · exact Or.inr z.2
           unfold av_ask tl_ask
           rw [if_neg h27, if_pos c4, if_neg h27, if_pos c4]
           exact ⟨rfl, by rw [bx_uu]⟩)
        | (have c4 : ¬ (A 0 (2 + j) = 4 ∨ A 0 (2 + j) = 5) := fun y => h44 (y.elim (fun z => Or.inr (Or.inl z.symm)) (fun z => Or.inr (Or.inr (Or.inr ⟨rfl, z⟩))))
           unfold av_ask tl_ask
           rw [if_neg h27, if_neg c4, if_neg h27, if_neg c4]
           exact ⟨rfl, by rw [bx_uu]⟩)
    · skip
      try simp only [nk_b0, Int32.toInt_toInt64, Classical.not_not, nk_l0, nk_l1, nk_l2, nk_l3, nk_l5, nk_l9, nk_l9m, nk_l40, nk_l255] at h15
      refine nk_ldc qX8_49 dX8_ask_18 ?_
      refine nk_ireturn dX8_ask_20 rfl ?_
      have cc : ¬ c_ask m s x := fun z => by
        first
        | exact h5 z.1
        | exact h15 z.2
      exact ⟨by unfold sp_ask; rw [if_neg cc], by unfold a_ask i_ask; rw [if_neg cc, if_neg cc]⟩
set_option maxRecDepth 20000 in
theorem l_X8_sumOf {G : nk_EG} {ad : Nat → Nat} {A : Nat → Nat → Int32} {I : Nat → Int32} (hi : mInj ad) {m b : Nat} (hm : mSh (A 0) 0 m b) {j : Nat} (hj : j < 4) : ∀ (n : Nat) (k : Nat) (h1 : k ≤ nk_tp b) (h2 : nk_tp b < k + n), nk_J G mX8_sumOf 3 (nk_ri (nI (sp_sum (nk_mem (A 0) 0 j) (nk_tp b))) (mh ad A I)) 0 0 4 [some (.ref (ad 0)), some (.int (nI j)), some (.int (nI (sp_sum (nk_mem (A 0) 0 j) k))), some (.int (nI k))] [] (mh ad A I) := by
  intro n
  induction n with
  | zero => intro k h1 h2; omega
  | succ n ih =>
    intro k h1 h2
    have h4 := hm.2.2.1
    have h10 := hm.2.2.2
    have ht := nk_tp_le h10
    refine nk_iload_n (i := 3) dX8_sumOf_4 rfl rfl ?_
    refine nk_aload_n (i := 0) dX8_sumOf_5 rfl rfl ?_
    refine nk_cVi kX8_127 (s_X8_top hi hm.2.1 hm.2.2.2) dX8_sumOf_6 mh_0 rfl rfl (by decide) (Nat.le_of_ble_eq_true rfl) ?_
    refine nk_icmpge (tgt := 36) dX8_sumOf_9 (by decide) (fun h9 => ?_) (fun h9 => ?_)
    · skip
      refine nk_iload_n (i := 2) dX8_sumOf_36 rfl rfl ?_
      refine nk_ireturn dX8_sumOf_37 rfl ?_
      have e2 : k = nk_tp b := Nat.le_antisymm h1 (nk_leI h9 (by omega) (by omega))
      subst e2
      exact ⟨rfl, rfl⟩
    · skip
      have hk := nk_nleI (a := nk_tp b) h9 (by omega) (by omega)
      refine nk_iload_n (i := 2) dX8_sumOf_12 rfl rfl ?_
      refine nk_aload_n (i := 0) dX8_sumOf_13 rfl rfl ?_
      refine nk_iconst (v := 0) dX8_sumOf_14 (by decide) ?_
      refine nk_iload_n (i := 1) dX8_sumOf_15 rfl rfl ?_
      refine nk_iload_n (i := 3) dX8_sumOf_16 rfl rfl ?_
      refine nk_cVi kX8_137 (s_X8_hasKey hi (base := 0) (s := j) (k := k) (by omega) (by omega)) dX8_sumOf_17 mh_0 rfl rfl (by decide) (Nat.le_of_ble_eq_true rfl) ?_
      refine nk_ifeq (tgt := 27) dX8_sumOf_20 (by decide) (fun h20 => ?_) (fun h20 => ?_)
      · skip
        simp only [nk_b0, Classical.not_not] at h20
        refine nk_iconst (v := 0) dX8_sumOf_27 (by decide) ?_
        refine nk_iadd dX8_sumOf_28 ?_
        refine nk_istore_nT (i := 2) dX8_sumOf_29 rfl (by decide) ?_
        refine nk_iincT dX8_sumOf_30 rfl (nk_i1 k) (by decide) ?_
        refine nk_goto (tgt := 4) dX8_sumOf_33 (by decide) ?_
        refine (ih (k + 1) (by omega) (by omega)).to ?_ rfl rfl
        first
        | (rw [sp_sum, if_neg h20]; exact congrArg (fun z => [_, _, some (Value.int z), _]) (Int32.add_zero _))
        | (rw [sp_sum, if_pos h20, ← nI_add (sp_sum (nk_mem (A 0) 0 j) k) k]; rfl)
      · skip
        simp only [nk_b0, Classical.not_not] at h20
        refine nk_iload_n (i := 3) dX8_sumOf_23 rfl rfl ?_
        refine nk_goto (tgt := 28) dX8_sumOf_24 (by decide) ?_
        refine nk_iadd dX8_sumOf_28 ?_
        refine nk_istore_nT (i := 2) dX8_sumOf_29 rfl (by decide) ?_
        refine nk_iincT dX8_sumOf_30 rfl (nk_i1 k) (by decide) ?_
        refine nk_goto (tgt := 4) dX8_sumOf_33 (by decide) ?_
        refine (ih (k + 1) (by omega) (by omega)).to ?_ rfl rfl
        first
        | (rw [sp_sum, if_neg h20]; exact congrArg (fun z => [_, _, some (Value.int z), _]) (Int32.add_zero _))
        | (rw [sp_sum, if_pos h20, ← nI_add (sp_sum (nk_mem (A 0) 0 j) k) k]; rfl)
set_option maxRecDepth 20000 in
theorem s_X8_sumOf {G : nk_EG} {ad : Nat → Nat} {A : Nat → Nat → Int32} {I : Nat → Int32} (hi : mInj ad) {m b : Nat} (hm : mSh (A 0) 0 m b) {j : Nat} (hj : j < 4) : nk_Si G mX8_sumOf 3 [.ref (ad 0), .int (nI j)] (mh ad A I) (nI (sp_sum (nk_mem (A 0) 0 j) (nk_tp b))) (mh ad A I) := by
  have h4 := hm.2.2.1
  have h10 := hm.2.2.2
  have ht := nk_tp_le h10
  refine nk_S.of (by decide +kernel) (Nat.le_of_ble_eq_true rfl) rfl ?_
  refine nk_iconst (v := 0) dX8_sumOf_0 (by decide) ?_
  refine nk_istore_nT (i := 2) dX8_sumOf_1 rfl (by decide) ?_
  refine nk_iconst (v := 0) dX8_sumOf_2 (by decide) ?_
  refine nk_istore_nT (i := 3) dX8_sumOf_3 rfl (by decide) ?_
  exact l_X8_sumOf hi hm hj (nk_tp b + 1) 0 (Nat.zero_le _) (by omega)
set_option maxRecDepth 20000 in
theorem l_X8_allKeys {G : nk_EG} {ad : Nat → Nat} {A : Nat → Nat → Int32} {I : Nat → Int32} (hi : mInj ad) {m b : Nat} (hm : mSh (A 0) 0 m b) : ∀ (n : Nat) (k : Nat) (h1 : k ≤ m) (h2 : m < k + n), nk_J G mX8_allKeys 3 (nk_ri (nI (sp_allk (nk_mem (A 0) 0) m)) (mh ad A I)) 0 0 4 [some (.ref (ad 0)), some (.int (nI (sp_allk (nk_mem (A 0) 0) k))), some (.int (nI k))] [] (mh ad A I) := by
  intro n
  induction n with
  | zero => intro k h1 h2; omega
  | succ n ih =>
    intro k h1 h2
    have h4 := hm.2.2.1
    have h10 := hm.2.2.2
    have ht := nk_tp_le h10
    refine nk_iload_n (i := 2) dX8_allKeys_4 rfl rfl ?_
    refine nk_aload_n (i := 0) dX8_allKeys_5 rfl rfl ?_
    refine nk_getf fX8_7 dX8_allKeys_6 mh_0 rfl ?_
    refine nk_iconst (v := 0) dX8_allKeys_9 (by decide) ?_
    refine nk_ialdN (j := 0) dX8_allKeys_10 (mh_1 hi) (rfl) (by omega) (by decide) ?_
    rw [hm.1]
    refine nk_icmpge (tgt := 29) dX8_allKeys_11 (by decide) (fun h11 => ?_) (fun h11 => ?_)
    · skip
      refine nk_iload_n (i := 1) dX8_allKeys_29 rfl rfl ?_
      refine nk_ireturn dX8_allKeys_30 rfl ?_
      have e2 : k = m := Nat.le_antisymm h1 (nk_leI h11 (by omega) (by omega))
      subst e2
      exact ⟨rfl, rfl⟩
    · skip
      have hk := nk_nleI (a := m) h11 (by omega) (by omega)
      refine nk_iload_n (i := 1) dX8_allKeys_14 rfl rfl ?_
      refine nk_aload_n (i := 0) dX8_allKeys_15 rfl rfl ?_
      refine nk_iconst (v := 0) dX8_allKeys_16 (by decide) ?_
      refine nk_iload_n (i := 2) dX8_allKeys_17 rfl rfl ?_
      refine nk_cVi kX8_168 (s_X8_keysOf hi (base := 0) (s := k) (by omega)) dX8_allKeys_18 mh_0 rfl rfl (by decide) (Nat.le_of_ble_eq_true rfl) ?_
      refine nk_iadd dX8_allKeys_21 ?_
      refine nk_top (y := nI (sp_allk (nk_mem (A 0) 0) (k + 1))) (by rw [nI_add]; rfl) ?_
      refine nk_istore_nT (i := 1) dX8_allKeys_22 rfl (by decide) ?_
      refine nk_iincT dX8_allKeys_23 rfl (nk_i1 k) (by decide) ?_
      refine nk_goto (tgt := 4) dX8_allKeys_26 (by decide) ?_
      exact ih (k + 1) (by omega) (by omega)
set_option maxRecDepth 20000 in
theorem s_X8_allKeys {G : nk_EG} {ad : Nat → Nat} {A : Nat → Nat → Int32} {I : Nat → Int32} (hi : mInj ad) {m b : Nat} (hm : mSh (A 0) 0 m b) : nk_Si G mX8_allKeys 3 [.ref (ad 0)] (mh ad A I) (nI (sp_allk (nk_mem (A 0) 0) m)) (mh ad A I) := by
  have h4 := hm.2.2.1
  have h10 := hm.2.2.2
  have ht := nk_tp_le h10
  refine nk_S.of (by decide +kernel) (Nat.le_of_ble_eq_true rfl) rfl ?_
  refine nk_iconst (v := 0) dX8_allKeys_0 (by decide) ?_
  refine nk_istore_nT (i := 1) dX8_allKeys_1 rfl (by decide) ?_
  refine nk_iconst (v := 0) dX8_allKeys_2 (by decide) ?_
  refine nk_istore_nT (i := 2) dX8_allKeys_3 rfl (by decide) ?_
  exact l_X8_allKeys hi hm (m + 1) 0 (by omega) (by omega)
set_option maxRecDepth 20000 in
theorem l_X8_allNodes {G : nk_EG} {ad : Nat → Nat} {A : Nat → Nat → Int32} {I : Nat → Int32} (hi : mInj ad) {m b : Nat} (hm : mSh (A 0) 0 m b) : ∀ (n : Nat) (k : Nat) (h1 : k ≤ m) (h2 : m < k + n), nk_J G mX8_allNodes 8 (nk_ri (sp_alln (nk_mem (A 0) 0) b m) (mh ad A I)) 0 0 4 [some (.ref (ad 0)), some (.int (sp_alln (nk_mem (A 0) 0) b k)), some (.int (nI k))] [] (mh ad A I) := by
  intro n
  induction n with
  | zero => intro k h1 h2; omega
  | succ n ih =>
    intro k h1 h2
    have h4 := hm.2.2.1
    have h10 := hm.2.2.2
    have ht := nk_tp_le h10
    refine nk_iload_n (i := 2) dX8_allNodes_4 rfl rfl ?_
    refine nk_aload_n (i := 0) dX8_allNodes_5 rfl rfl ?_
    refine nk_getf fX8_7 dX8_allNodes_6 mh_0 rfl ?_
    refine nk_iconst (v := 0) dX8_allNodes_9 (by decide) ?_
    refine nk_ialdN (j := 0) dX8_allNodes_10 (mh_1 hi) (rfl) (by omega) (by decide) ?_
    rw [hm.1]
    refine nk_icmpge (tgt := 28) dX8_allNodes_11 (by decide) (fun h11 => ?_) (fun h11 => ?_)
    · skip
      refine nk_iload_n (i := 1) dX8_allNodes_28 rfl rfl ?_
      refine nk_ireturn dX8_allNodes_29 rfl ?_
      have e2 : k = m := Nat.le_antisymm h1 (nk_leI h11 (by omega) (by omega))
      subst e2
      exact ⟨rfl, rfl⟩
    · skip
      have hk := nk_nleI (a := m) h11 (by omega) (by omega)
      refine nk_iload_n (i := 1) dX8_allNodes_14 rfl rfl ?_
      refine nk_aload_n (i := 0) dX8_allNodes_15 rfl rfl ?_
      refine nk_iload_n (i := 2) dX8_allNodes_16 rfl rfl ?_
      refine nk_cVi kX8_253 (s_X8_nodesIn hi hm (by omega)) dX8_allNodes_17 mh_0 rfl rfl (by decide) (Nat.le_of_ble_eq_true rfl) ?_
      refine nk_iadd dX8_allNodes_20 ?_
      refine nk_top (y := sp_alln (nk_mem (A 0) 0) b (k + 1)) (rfl) ?_
      refine nk_istore_nT (i := 1) dX8_allNodes_21 rfl (by decide) ?_
      refine nk_iincT dX8_allNodes_22 rfl (nk_i1 k) (by decide) ?_
      refine nk_goto (tgt := 4) dX8_allNodes_25 (by decide) ?_
      exact ih (k + 1) (by omega) (by omega)
set_option maxRecDepth 20000 in
theorem s_X8_allNodes {G : nk_EG} {ad : Nat → Nat} {A : Nat → Nat → Int32} {I : Nat → Int32} (hi : mInj ad) {m b : Nat} (hm : mSh (A 0) 0 m b) : nk_Si G mX8_allNodes 8 [.ref (ad 0)] (mh ad A I) (sp_alln (nk_mem (A 0) 0) b m) (mh ad A I) := by
  have h4 := hm.2.2.1
  have h10 := hm.2.2.2
  have ht := nk_tp_le h10
  refine nk_S.of (by decide +kernel) (Nat.le_of_ble_eq_true rfl) rfl ?_
  refine nk_iconst (v := 0) dX8_allNodes_0 (by decide) ?_
  refine nk_istore_nT (i := 1) dX8_allNodes_1 rfl (by decide) ?_
  refine nk_iconst (v := 0) dX8_allNodes_2 (by decide) ?_
  refine nk_istore_nT (i := 2) dX8_allNodes_3 rfl (by decide) ?_
  exact l_X8_allNodes hi hm (m + 1) 0 (by omega) (by omega)
set_option maxRecDepth 20000 in
theorem l_X8_count {G : nk_EG} {ad : Nat → Nat} {A : Nat → Nat → Int32} {I : Nat → Int32} (hi : mInj ad) {x : Int32} : ∀ (n : Nat) (k : Nat) (h1 : k ≤ 8) (h2 : 8 < k + n), nk_J G mX8_count 9 (nk_ri (nI (sp_rows A 8)) (mh ad A I)) 0 0 46 [some (.ref (ad 0)), some (.int x), some (.int (nI (sp_rows A k))), some (.int (nI k))] [] (mh ad A I) := by
  intro n
  induction n with
  | zero => intro k h1 h2; omega
  | succ n ih =>
    intro k h1 h2
    refine nk_iload_n (i := 3) dX8_count_46 rfl rfl ?_
    refine nk_bipush (v := 8) dX8_count_47 (by decide) ?_
    refine nk_icmpge (tgt := 75) dX8_count_49 (by decide) (fun h49 => ?_) (fun h49 => ?_)
    · skip
      refine nk_iload_n (i := 2) dX8_count_75 rfl rfl ?_
      refine nk_ireturn dX8_count_76 rfl ?_
      have e2 : k = 8 := Nat.le_antisymm h1 (nk_leI (a := 8) h49 (by omega) (by omega))
      subst e2
      exact ⟨rfl, rfl⟩
    · skip
      have hk := nk_nleI (a := 8) h49 (by omega) (by omega)
      refine nk_iload_n (i := 2) dX8_count_52 rfl rfl ?_
      refine nk_aload_n (i := 0) dX8_count_53 rfl rfl ?_
      refine nk_getf fX8_20 dX8_count_54 mh_0 rfl ?_
      refine nk_iload_n (i := 3) dX8_count_57 rfl rfl ?_
      refine nk_ialdN (j := k) dX8_count_58 (mh_4 hi) (rfl) (by omega) (by decide) ?_
      refine nk_ifge (tgt := 66) dX8_count_59 (by decide) (fun h59 => ?_) (fun h59 => ?_)
      · skip
        refine nk_iconst (v := 1) dX8_count_66 (by decide) ?_
        refine nk_iadd dX8_count_67 ?_
        refine nk_istore_nT (i := 2) dX8_count_68 rfl (by decide) ?_
        refine nk_iincT dX8_count_69 rfl (nk_i1 k) (by decide) ?_
        refine nk_goto (tgt := 46) dX8_count_72 (by decide) ?_
        refine (ih (k + 1) (by omega) (by omega)).to ?_ rfl rfl
        first
        | (rw [sp_rows, if_pos h59, ← nI_add (sp_rows A k) 1]; rfl)
        | (rw [sp_rows, if_neg h59]; exact congrArg (fun z => [_, _, some (Value.int z), _]) (Int32.add_zero _))
      · skip
        refine nk_iconst (v := 0) dX8_count_62 (by decide) ?_
        refine nk_goto (tgt := 67) dX8_count_63 (by decide) ?_
        refine nk_iadd dX8_count_67 ?_
        refine nk_istore_nT (i := 2) dX8_count_68 rfl (by decide) ?_
        refine nk_iincT dX8_count_69 rfl (nk_i1 k) (by decide) ?_
        refine nk_goto (tgt := 46) dX8_count_72 (by decide) ?_
        refine (ih (k + 1) (by omega) (by omega)).to ?_ rfl rfl
        first
        | (rw [sp_rows, if_pos h59, ← nI_add (sp_rows A k) 1]; rfl)
        | (rw [sp_rows, if_neg h59]; exact congrArg (fun z => [_, _, some (Value.int z), _]) (Int32.add_zero _))
set_option maxRecDepth 20000 in
theorem s_X8_count {G : nk_EG} {ad : Nat → Nat} {A : Nat → Nat → Int32} {I : Nat → Int32} (hi : mInj ad) {m b : Nat} (hm : mSh (A 0) 0 m b) {x : Int32} : nk_Si G mX8_count 9 [.ref (ad 0), .int x] (mh ad A I) (sp_count A I m b (nk_mem (A 0) 0) x) (mh ad A I) := by
  refine nk_S.of (by decide +kernel) (Nat.le_of_ble_eq_true rfl) rfl ?_
  refine nk_iconst (v := 0) dX8_count_0 (by decide) ?_
  refine nk_istore_nT (i := 2) dX8_count_1 rfl (by decide) ?_
  refine nk_iload_n (i := 1) dX8_count_2 rfl rfl ?_
  by_cases c3_0 : x = 0
  · skip
    refine nk_top (y := 0) c3_0 ?_
    refine nk_tableIn (tgt := 44) (off := 41) dX8_count_3 (by decide) (by decide) (by decide) (by decide) ?_
    refine nk_iconst (v := 0) dX8_count_44 (by decide) ?_
    refine nk_istore_nT (i := 3) dX8_count_45 rfl (by decide) ?_
    unfold sp_count
    rw [if_pos c3_0]
    exact l_X8_count hi 9 0 (by omega) (by omega)
  by_cases c3_1 : x = 1
  · skip
    refine nk_top (y := 1) c3_1 ?_
    refine nk_tableIn (tgt := 77) (off := 74) dX8_count_3 (by decide) (by decide) (by decide) (by decide) ?_
    refine nk_aload_n (i := 0) dX8_count_77 rfl rfl ?_
    refine nk_getf fX8_7 dX8_count_78 mh_0 rfl ?_
    refine nk_iconst (v := 0) dX8_count_81 (by decide) ?_
    refine nk_ialdN (j := 0) dX8_count_82 (mh_1 hi) (rfl) (by omega) (by decide) ?_
    refine nk_ireturn dX8_count_83 rfl ?_
    exact ⟨by unfold sp_count; rw [if_neg c3_0, if_pos c3_1, hm.1], rfl⟩
  by_cases c3_2 : x = 2
  · skip
    refine nk_top (y := 2) c3_2 ?_
    refine nk_tableIn (tgt := 84) (off := 81) dX8_count_3 (by decide) (by decide) (by decide) (by decide) ?_
    refine nk_aload_n (i := 0) dX8_count_84 rfl rfl ?_
    refine nk_getf fX8_7 dX8_count_85 mh_0 rfl ?_
    refine nk_iconst (v := 1) dX8_count_88 (by decide) ?_
    refine nk_ialdN (j := 1) dX8_count_89 (mh_1 hi) (rfl) (by omega) (by decide) ?_
    refine nk_ireturn dX8_count_90 rfl ?_
    exact ⟨by unfold sp_count; rw [if_neg c3_0, if_neg c3_1, if_pos c3_2, hm.2.1], rfl⟩
  by_cases c3_3 : x = 3
  · skip
    refine nk_top (y := 3) c3_3 ?_
    refine nk_tableIn (tgt := 91) (off := 88) dX8_count_3 (by decide) (by decide) (by decide) (by decide) ?_
    refine nk_aload_n (i := 0) dX8_count_91 rfl rfl ?_
    refine nk_cVi kX8_302 (s_X8_allKeys hi hm) dX8_count_92 mh_0 rfl rfl (by decide) (Nat.le_of_ble_eq_true rfl) ?_
    refine nk_ireturn dX8_count_95 rfl ?_
    exact ⟨by unfold sp_count; rw [if_neg c3_0, if_neg c3_1, if_neg c3_2, if_pos c3_3], rfl⟩
  by_cases c3_4 : x = 4
  · skip
    refine nk_top (y := 4) c3_4 ?_
    refine nk_tableIn (tgt := 96) (off := 93) dX8_count_3 (by decide) (by decide) (by decide) (by decide) ?_
    refine nk_aload_n (i := 0) dX8_count_96 rfl rfl ?_
    refine nk_cVi kX8_305 (s_X8_allNodes hi hm) dX8_count_97 mh_0 rfl rfl (by decide) (Nat.le_of_ble_eq_true rfl) ?_
    refine nk_ireturn dX8_count_100 rfl ?_
    exact ⟨by unfold sp_count; rw [if_neg c3_0, if_neg c3_1, if_neg c3_2, if_neg c3_3, if_pos c3_4], rfl⟩
  by_cases c3_5 : x = 5
  · skip
    refine nk_top (y := 5) c3_5 ?_
    refine nk_tableIn (tgt := 101) (off := 98) dX8_count_3 (by decide) (by decide) (by decide) (by decide) ?_
    refine nk_aload_n (i := 0) dX8_count_101 rfl rfl ?_
    refine nk_getf fX8_121 dX8_count_102 mh_0 rfl ?_
    refine nk_ireturn dX8_count_105 rfl ?_
    exact ⟨by unfold sp_count; rw [if_neg c3_0, if_neg c3_1, if_neg c3_2, if_neg c3_3, if_neg c3_4, if_pos c3_5], rfl⟩
  by_cases c3_6 : x = 6
  · skip
    refine nk_top (y := 6) c3_6 ?_
    refine nk_tableIn (tgt := 106) (off := 103) dX8_count_3 (by decide) (by decide) (by decide) (by decide) ?_
    refine nk_aload_n (i := 0) dX8_count_106 rfl rfl ?_
    refine nk_getf fX8_67 dX8_count_107 mh_0 rfl ?_
    refine nk_ireturn dX8_count_110 rfl ?_
    exact ⟨by unfold sp_count; rw [if_neg c3_0, if_neg c3_1, if_neg c3_2, if_neg c3_3, if_neg c3_4, if_neg c3_5, if_pos c3_6], rfl⟩
  have e3_0 : (x).toInt ≠ 0 := nk_neI c3_0
  have e3_1 : (x).toInt ≠ 1 := nk_neI c3_1
  have e3_2 : (x).toInt ≠ 2 := nk_neI c3_2
  have e3_3 : (x).toInt ≠ 3 := nk_neI c3_3
  have e3_4 : (x).toInt ≠ 4 := nk_neI c3_4
  have e3_5 : (x).toInt ≠ 5 := nk_neI c3_5
  have e3_6 : (x).toInt ≠ 6 := nk_neI c3_6
  refine nk_tableOut (tgt := 111) dX8_count_3 (by omega) (by decide) ?_
  refine nk_ldc qX8_49 dX8_count_111 ?_
  refine nk_ireturn dX8_count_113 rfl ?_
  exact ⟨by unfold sp_count; rw [if_neg c3_0, if_neg c3_1, if_neg c3_2, if_neg c3_3, if_neg c3_4, if_neg c3_5, if_neg c3_6], rfl⟩
set_option maxRecDepth 20000 in
theorem s_X8_image {G : nk_EG} {ad : Nat → Nat} {A : Nat → Nat → Int32} {I : Nat → Int32} (hi : mInj ad) {m b : Nat} (hm : mSh (A 0) 0 m b) {x : Int32} : nk_Si G mX8_image 2 [.ref (ad 0), .int x] (mh ad A I) (sp_image b x) (mh ad (a_image b x A) I) := by
  refine nk_S.of (by decide +kernel) (Nat.le_of_ble_eq_true rfl) rfl ?_
  refine nk_iload_n (i := 1) dX8_image_0 rfl rfl ?_
  refine nk_i2l dX8_image_1 ?_
  refine nk_lconst (v := 0) dX8_image_2 rfl ?_
  refine nk_lconst (v := 1) dX8_image_3 rfl ?_
  refine nk_cSi kX8_39 (s_X8_in) dX8_image_4 rfl rfl (by decide) (Nat.le_of_ble_eq_true rfl) ?_
  refine nk_ifne (tgt := 13) dX8_image_7 (by decide) (fun h7 => ?_) (fun h7 => ?_)
  · skip
    try simp only [nk_b0, Int32.toInt_toInt64, Classical.not_not, nk_l0, nk_l1, nk_l2, nk_l3, nk_l5, nk_l9, nk_l9m, nk_l40, nk_l255] at h7
    refine nk_aload_n (i := 0) dX8_image_13 rfl rfl ?_
    refine nk_cVi kX8_124 (s_X8_isShelf hi hm.2.1 hm.2.2.2) dX8_image_14 mh_0 rfl rfl (by decide) (Nat.le_of_ble_eq_true rfl) ?_
    refine nk_ifne (tgt := 23) dX8_image_17 (by decide) (fun h17 => ?_) (fun h17 => ?_)
    · skip
      try simp only [nk_b0, Int32.toInt_toInt64, Classical.not_not, nk_l0, nk_l1, nk_l2, nk_l3, nk_l5, nk_l9, nk_l9m, nk_l40, nk_l255] at h17
      obtain ⟨k, hk, rfl⟩ := nk_getR (n := 1) h7
      have cc : sp_R (nI k) 0 1 ∧ 0 < b := ⟨h7, h17⟩
      unfold sp_image a_image
      rw [if_pos h7, if_pos h17, if_pos cc, sp_n_nI (by omega)]
      refine nk_aload_n (i := 0) dX8_image_23 rfl rfl ?_
      refine nk_iconst (v := 0) dX8_image_24 (by decide) ?_
      refine nk_sipush (v := 3350) dX8_image_25 (by decide) ?_
      refine nk_sipush (v := 134) dX8_image_28 (by decide) ?_
      refine nk_iload_n (i := 1) dX8_image_31 rfl rfl ?_
      refine nk_imul dX8_image_32 ?_
      refine nk_iadd dX8_image_33 ?_
      refine nk_top (y := nI (3350 + 134 * k)) (by rw [show (134 : Int32) = nI 134 from rfl, show (3350 : Int32) = nI 3350 from rfl, pk_mul, nI_add]) ?_
      refine nk_cVv kX8_117 (s_X8_copyShelf hi (a := 0) (b := 3350 + 134 * k) (by omega) (by omega) (by omega)) dX8_image_34 mh_0 rfl rfl (by decide) (Nat.le_of_ble_eq_true rfl) ?_
      refine nk_aload_n (i := 0) dX8_image_37 rfl rfl ?_
      refine nk_getf fX8_13 dX8_image_38 mh_0 rfl ?_
      refine nk_iload_n (i := 1) dX8_image_41 rfl rfl ?_
      refine nk_iconst (v := 1) dX8_image_42 (by decide) ?_
      refine nk_zastN (j := k) dX8_image_43 (mh_2 hi) (rfl) (by omega) (by decide) rfl ?_
      refine nk_J.to ?_ rfl rfl (mu_A1 hi)
      refine nk_iconst (v := 1) dX8_image_44 (by decide) ?_
      refine nk_ireturn dX8_image_45 rfl ?_
      exact ⟨rfl, rfl⟩
    · skip
      try simp only [nk_b0, Int32.toInt_toInt64, Classical.not_not, nk_l0, nk_l1, nk_l2, nk_l3, nk_l5, nk_l9, nk_l9m, nk_l40, nk_l255] at h17
      refine nk_ldc qX8_153 dX8_image_20 ?_
      refine nk_ireturn dX8_image_22 rfl ?_
      have cc : ¬ (sp_R x 0 1 ∧ 0 < b) := fun z => h17 z.2
      exact ⟨by unfold sp_image; rw [if_pos h7, if_neg h17], by unfold a_image; rw [if_neg cc]⟩
  · skip
    try simp only [nk_b0, Int32.toInt_toInt64, Classical.not_not, nk_l0, nk_l1, nk_l2, nk_l3, nk_l5, nk_l9, nk_l9m, nk_l40, nk_l255] at h7
    refine nk_ldc qX8_49 dX8_image_10 ?_
    refine nk_ireturn dX8_image_12 rfl ?_
    have cc : ¬ (sp_R x 0 1 ∧ 0 < b) := fun z => h7 z.1
    exact ⟨by unfold sp_image; rw [if_neg h7], by unfold a_image; rw [if_neg cc]⟩
set_option maxRecDepth 20000 in
theorem s_X8_restore {G : nk_EG} {ad : Nat → Nat} {A : Nat → Nat → Int32} {I : Nat → Int32} (hi : mInj ad) {x : Int32} : nk_Si G mX8_restore 2 [.ref (ad 0), .int x] (mh ad A I) (sp_restore A x) (mh ad (a_restore x A) (i_restore A x I)) := by
  refine nk_S.of (by decide +kernel) (Nat.le_of_ble_eq_true rfl) rfl ?_
  refine nk_iload_n (i := 1) dX8_restore_0 rfl rfl ?_
  refine nk_i2l dX8_restore_1 ?_
  refine nk_lconst (v := 0) dX8_restore_2 rfl ?_
  refine nk_lconst (v := 1) dX8_restore_3 rfl ?_
  refine nk_cSi kX8_39 (s_X8_in) dX8_restore_4 rfl rfl (by decide) (Nat.le_of_ble_eq_true rfl) ?_
  refine nk_ifne (tgt := 13) dX8_restore_7 (by decide) (fun h7 => ?_) (fun h7 => ?_)
  · skip
    try simp only [nk_b0, Int32.toInt_toInt64, Classical.not_not, nk_l0, nk_l1, nk_l2, nk_l3, nk_l5, nk_l9, nk_l9m, nk_l40, nk_l255] at h7
    obtain ⟨k, hk, rfl⟩ := nk_getR (n := 1) h7
    unfold sp_restore a_restore i_restore
    rw [if_pos h7, sp_n_nI (by omega)]
    refine nk_aload_n (i := 0) dX8_restore_13 rfl rfl ?_
    refine nk_getf fX8_13 dX8_restore_14 mh_0 rfl ?_
    refine nk_iload_n (i := 1) dX8_restore_17 rfl rfl ?_
    refine nk_zaldN (j := k) dX8_restore_18 (mh_2 hi) (rfl) (by omega) (by decide) ?_
    refine nk_ifne (tgt := 25) dX8_restore_19 (by decide) (fun h19 => ?_) (fun h19 => ?_)
    · skip
      refine nk_aload_n (i := 0) dX8_restore_25 rfl rfl ?_
      refine nk_sipush (v := 3350) dX8_restore_26 (by decide) ?_
      refine nk_sipush (v := 134) dX8_restore_29 (by decide) ?_
      refine nk_iload_n (i := 1) dX8_restore_32 rfl rfl ?_
      refine nk_imul dX8_restore_33 ?_
      refine nk_iadd dX8_restore_34 ?_
      refine nk_top (y := nI (3350 + 134 * k)) (by rw [show (134 : Int32) = nI 134 from rfl, show (3350 : Int32) = nI 3350 from rfl, pk_mul, nI_add]) ?_
      refine nk_iconst (v := 0) dX8_restore_35 (by decide) ?_
      refine nk_cVv kX8_117 (s_X8_copyShelf hi (a := 3350 + 134 * k) (b := 0) (by omega) (by omega) (by omega)) dX8_restore_36 mh_0 rfl rfl (by decide) (Nat.le_of_ble_eq_true rfl) ?_
      refine nk_aload_n (i := 0) dX8_restore_39 rfl rfl ?_
      refine nk_iconst (v := 0) dX8_restore_40 (by decide) ?_
      refine nk_putf pX8_121 dX8_restore_41 mh_0 rfl rfl (Nat.le_of_ble_eq_true rfl) rfl ?_
      refine nk_J.to ?_ rfl rfl mu_I0
      refine nk_iconst (v := 1) dX8_restore_44 (by decide) ?_
      refine nk_ireturn dX8_restore_45 rfl ?_
      have cc : sp_R (nI k) 0 1 ∧ ¬ A 1 k = 0 := ⟨h7, h19⟩
      exact ⟨by rw [if_neg h19], by rw [if_pos cc, if_pos cc]⟩
    · skip
      refine nk_ldc qX8_153 dX8_restore_22 ?_
      refine nk_ireturn dX8_restore_24 rfl ?_
      have cc : ¬ (sp_R (nI k) 0 1 ∧ ¬ A 1 k = 0) := fun z => z.2 h19
      exact ⟨by rw [if_pos h19], by rw [if_neg cc, if_neg cc]⟩
  · skip
    try simp only [nk_b0, Int32.toInt_toInt64, Classical.not_not, nk_l0, nk_l1, nk_l2, nk_l3, nk_l5, nk_l9, nk_l9m, nk_l40, nk_l255] at h7
    refine nk_ldc qX8_49 dX8_restore_10 ?_
    refine nk_ireturn dX8_restore_12 rfl ?_
    have cc : ¬ (sp_R x 0 1 ∧ ¬ A 1 (sp_n x) = 0) := fun z => h7 z.1
    exact ⟨by unfold sp_restore; rw [if_neg h7], by unfold a_restore i_restore; rw [if_neg cc, if_neg cc]⟩

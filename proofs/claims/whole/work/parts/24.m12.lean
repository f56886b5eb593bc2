/-! the reference: acts -/
set_option maxRecDepth 20000 in
theorem l_X8_keepPast {G : nk_EG} {ad : Nat → Nat} {A : Nat → Nat → Int32} {I : Nat → Int32} (hi : mInj ad) {Φ : Option Value → nk_AH → Prop} (hu : I 0 = nI 24) (kk : ∀ l1 : Option Value, nk_J G mX8_keepPast 2 Φ 0 0 44 [some (.ref (ad 0)), l1] [] (mh ad (va_up A 0 (va_cpy (A 0) (A 0) 268 134 3082)) I)) : ∀ (n : Nat) (k : Nat) (h1 : k ≤ 3082) (h2 : 3082 < k + n), nk_J G mX8_keepPast 2 (Φ) 0 0 2 [some (.ref (ad 0)), some (.int (nI k))] [] (mh ad (va_up A 0 (va_cpy (A 0) (A 0) 268 134 k)) I) := by
  intro n
  induction n with
  | zero => intro k h1 h2; omega
  | succ n ih =>
    intro k h1 h2
    refine nk_iload_n (i := 1) dX8_keepPast_2 rfl rfl ?_
    refine nk_sipush (v := 3082) dX8_keepPast_3 (by decide) ?_
    refine nk_icmpge (tgt := 44) dX8_keepPast_6 (by decide) (fun h6 => ?_) (fun h6 => ?_)
    · skip
      have e2 : k = 3082 := Nat.le_antisymm h1 (nk_leI (a := 3082) h6 (by omega) (by omega))
      subst e2
      exact kk _
    · skip
      have hk := nk_nleI (a := 3082) h6 (by omega) (by omega)
      refine nk_aload_n (i := 0) dX8_keepPast_9 rfl rfl ?_
      refine nk_getf fX8_121 dX8_keepPast_10 mh_0 rfl ?_
      rw [hu]
      refine nk_bipush (v := 24) dX8_keepPast_13 (by decide) ?_
      refine nk_icmpne (tgt := 44) dX8_keepPast_15 (by decide) (fun h15 => by first | exact absurd h15 (rfl) | exact absurd (rfl) h15) (fun _ => ?_)
      refine nk_aload_n (i := 0) dX8_keepPast_18 rfl rfl ?_
      refine nk_getf fX8_7 dX8_keepPast_19 mh_0 rfl ?_
      refine nk_sipush (v := 134) dX8_keepPast_22 (by decide) ?_
      refine nk_iload_n (i := 1) dX8_keepPast_25 rfl rfl ?_
      refine nk_iadd dX8_keepPast_26 ?_
      refine nk_aload_n (i := 0) dX8_keepPast_27 rfl rfl ?_
      refine nk_getf fX8_7 dX8_keepPast_28 mh_0 rfl ?_
      refine nk_sipush (v := 268) dX8_keepPast_31 (by decide) ?_
      refine nk_iload_n (i := 1) dX8_keepPast_34 rfl rfl ?_
      refine nk_iadd dX8_keepPast_35 ?_
      refine nk_ialdN (j := 268 + k) dX8_keepPast_36 (mh_1 hi) (nI_add 268 k) (by omega) (by decide) ?_
      refine nk_top (y := A 0 (268 + k)) (va_cpy_out (by omega)) ?_
      refine nk_iastN (j := 134 + k) dX8_keepPast_37 (mh_1 hi) (nI_add 134 k) (by omega) (by decide) ?_
      refine nk_J.to ?_ rfl rfl (mu_A0 hi)
      refine nk_iincT dX8_keepPast_38 rfl (nk_i1 k) (by decide) ?_
      refine nk_goto (tgt := 2) dX8_keepPast_41 (by decide) ?_
      exact (ih (k + 1) (by omega) (by omega)).to rfl rfl (by rw [bx_uu]; exact congrArg (fun z => mh ad (va_up A 0 z) I) (va_cpy_step (by omega)))
set_option maxRecDepth 20000 in
theorem t_X8_keepPast {G : nk_EG} {ad : Nat → Nat} {A : Nat → Nat → Int32} {I : Nat → Int32} {F : Nat → Int32} (hi : mInj ad) {u : Nat} (hu24 : u ≤ 24) {l1 : Option Value} : nk_J G mX8_keepPast 2 (nk_rv (mh ad (va_up A 0 (va_cpy F F 0 (134 + 134 * u_kp u) 134)) (va_up I 0 (nI (u_kp u + 1))))) 0 0 67 [some (.ref (ad 0)), l1] [] (mh ad (va_up A 0 F) (va_up I 0 (nI (u_kp u)))) := by
  have hk := u_kp_le hu24
  refine nk_aload_n (i := 0) dX8_keepPast_67 rfl rfl ?_
  refine nk_iconst (v := 0) dX8_keepPast_68 (by decide) ?_
  refine nk_sipush (v := 134) dX8_keepPast_69 (by decide) ?_
  refine nk_sipush (v := 134) dX8_keepPast_72 (by decide) ?_
  refine nk_aload_n (i := 0) dX8_keepPast_75 rfl rfl ?_
  refine nk_getf fX8_121 dX8_keepPast_76 mh_0 rfl ?_
  rw [show va_up I 0 (nI (u_kp u)) 0 = nI (u_kp u) from rfl]
  refine nk_imul dX8_keepPast_79 ?_
  refine nk_iadd dX8_keepPast_80 ?_
  refine nk_top (y := nI (134 + 134 * u_kp u)) (by rw [show (134 : Int32) = nI 134 from rfl, pk_mul, nI_add]) ?_
  refine nk_cVv kX8_117 (s_X8_copyShelf hi (a := 0) (b := 134 + 134 * u_kp u) (by omega) (by omega) (by omega)) dX8_keepPast_81 mh_0 rfl rfl (by decide) (Nat.le_of_ble_eq_true rfl) ?_
  refine nk_aload_n (i := 0) dX8_keepPast_84 rfl rfl ?_
  refine nk_dup dX8_keepPast_85 rfl ?_
  refine nk_getf fX8_121 dX8_keepPast_86 mh_0 rfl ?_
  refine nk_iconst (v := 1) dX8_keepPast_89 (by decide) ?_
  refine nk_iadd dX8_keepPast_90 ?_
  refine nk_top (y := nI (u_kp u + 1)) (nI_1 _) ?_
  refine nk_putf pX8_121 dX8_keepPast_91 mh_0 rfl rfl (Nat.le_of_ble_eq_true rfl) rfl ?_
  refine nk_J.to ?_ rfl rfl mu_I0
  refine nk_vreturn dX8_keepPast_94 rfl ?_
  exact ⟨rfl, by rw [bx_uu, bx_uu]; rfl⟩
set_option maxRecDepth 20000 in
theorem s_X8_keepPast {G : nk_EG} {ad : Nat → Nat} {A : Nat → Nat → Int32} {I : Nat → Int32} (hi : mInj ad) {u : Nat} (hu : I 0 = nI u) (hu24 : u ≤ 24) : nk_Sv G mX8_keepPast 2 [.ref (ad 0)] (mh ad A I) (mh ad (va_up A 0 (a_kp (A 0) u)) (va_up I 0 (nI (u_kp u + 1)))) := by
  refine nk_S.of (by decide +kernel) (Nat.le_of_ble_eq_true rfl) rfl ?_
  refine nk_iconst (v := 0) dX8_keepPast_0 (by decide) ?_
  refine nk_istore_nT (i := 1) dX8_keepPast_1 rfl (by decide) ?_
  by_cases e24 : u = 24
  · have hu2 : I 0 = nI 24 := by rw [hu, e24]
    refine (l_X8_keepPast hi hu2 (fun l1 => ?_) 3083 0 (by omega) (by omega)).to rfl rfl (by rw [va_cpy_0, va_up_same])
    refine nk_aload_n (i := 0) dX8_keepPast_44 rfl rfl ?_
    refine nk_dup dX8_keepPast_45 rfl ?_
    refine nk_getf fX8_121 dX8_keepPast_46 mh_0 rfl ?_
    refine nk_aload_n (i := 0) dX8_keepPast_49 rfl rfl ?_
    refine nk_getf fX8_121 dX8_keepPast_50 mh_0 rfl ?_
    rw [hu2]
    refine nk_bipush (v := 24) dX8_keepPast_53 (by decide) ?_
    refine nk_icmpne (tgt := 62) dX8_keepPast_55 (by decide) (fun h55 => by first | exact absurd h55 (rfl) | exact absurd (rfl) h55) (fun _ => ?_)
    refine nk_iconst (v := 1) dX8_keepPast_58 (by decide) ?_
    refine nk_goto (tgt := 63) dX8_keepPast_59 (by decide) ?_
    refine nk_isub dX8_keepPast_63 ?_
    refine nk_top (y := nI (u_kp u)) (by rw [e24]; rfl) ?_
    refine nk_putf pX8_121 dX8_keepPast_64 mh_0 rfl rfl (Nat.le_of_ble_eq_true rfl) rfl ?_
    refine nk_J.to ?_ rfl rfl mu_I0
    have e1 : a_sh (A 0) u = va_cpy (A 0) (A 0) 268 134 3082 := by unfold a_sh; rw [if_pos e24]
    unfold a_kp
    rw [e1]
    exact t_X8_keepPast hi hu24
  · have hne : ¬ nI u = 24 := fun z => e24 (nk_eqI (b := 24) z (by omega) (by omega))
    refine nk_iload_n (i := 1) dX8_keepPast_2 rfl rfl ?_
    refine nk_sipush (v := 3082) dX8_keepPast_3 (by decide) ?_
    refine nk_icmpge (tgt := 44) dX8_keepPast_6 (by decide) (fun h6 => by first | exact absurd h6 (by decide) | exact absurd (by decide) h6) (fun _ => ?_)
    refine nk_aload_n (i := 0) dX8_keepPast_9 rfl rfl ?_
    refine nk_getf fX8_121 dX8_keepPast_10 mh_0 rfl ?_
    rw [hu]
    refine nk_bipush (v := 24) dX8_keepPast_13 (by decide) ?_
    refine nk_icmpne (tgt := 44) dX8_keepPast_15 (by decide) (fun _ => ?_) (fun h15 => by first | exact absurd (hne) h15 | exact absurd h15 (hne))
    refine nk_aload_n (i := 0) dX8_keepPast_44 rfl rfl ?_
    refine nk_dup dX8_keepPast_45 rfl ?_
    refine nk_getf fX8_121 dX8_keepPast_46 mh_0 rfl ?_
    refine nk_aload_n (i := 0) dX8_keepPast_49 rfl rfl ?_
    refine nk_getf fX8_121 dX8_keepPast_50 mh_0 rfl ?_
    rw [hu]
    refine nk_bipush (v := 24) dX8_keepPast_53 (by decide) ?_
    refine nk_icmpne (tgt := 62) dX8_keepPast_55 (by decide) (fun _ => ?_) (fun h55 => by first | exact absurd (hne) h55 | exact absurd h55 (hne))
    refine nk_iconst (v := 0) dX8_keepPast_62 (by decide) ?_
    refine nk_isub dX8_keepPast_63 ?_
    refine nk_top (y := nI (u_kp u)) (by unfold u_kp; rw [if_neg e24]; exact Int32.sub_zero _) ?_
    refine nk_putf pX8_121 dX8_keepPast_64 mh_0 rfl rfl (Nat.le_of_ble_eq_true rfl) rfl ?_
    refine nk_J.to ?_ rfl rfl mu_I0
    have e1 : a_sh (A 0) u = A 0 := by unfold a_sh; rw [if_neg e24]
    unfold a_kp
    rw [e1]
    refine (t_X8_keepPast (F := A 0) hi hu24).to rfl rfl (by rw [va_up_same])
set_option maxRecDepth 20000 in
theorem s_X8_undo {G : nk_EG} {ad : Nat → Nat} {A : Nat → Nat → Int32} {I : Nat → Int32} (hi : mInj ad) {u : Nat} (hu : I 0 = nI u) (hu24 : u ≤ 24) : nk_Si G mX8_undo 2 [.ref (ad 0)] (mh ad A I) (if u = 0 then -1000002 else nI (u - 1)) (mh ad (if u = 0 then A else va_up A 0 (va_cpy (A 0) (A 0) (134 + 134 * (u - 1)) 0 134)) (if u = 0 then I else va_up I 0 (nI (u - 1)))) := by
  refine nk_S.of (by decide +kernel) (Nat.le_of_ble_eq_true rfl) rfl ?_
  refine nk_aload_n (i := 0) dX8_undo_0 rfl rfl ?_
  refine nk_getf fX8_121 dX8_undo_1 mh_0 rfl ?_
  rw [hu]
  refine nk_ifne (tgt := 10) dX8_undo_4 (by decide) (fun h4 => ?_) (fun h4 => ?_)
  · skip
    skip
    have hu0 : 0 < u := by
      rcases Nat.eq_zero_or_pos u with e | e
      · exact absurd (by rw [e]; rfl) h4
      · exact e
    have hne : ¬ u = 0 := by omega
    refine nk_aload_n (i := 0) dX8_undo_10 rfl rfl ?_
    refine nk_dup dX8_undo_11 rfl ?_
    refine nk_getf fX8_121 dX8_undo_12 mh_0 rfl ?_
    refine nk_iconst (v := 1) dX8_undo_15 (by decide) ?_
    refine nk_isub dX8_undo_16 ?_
    refine nk_top (y := nI (u - 1)) (by rw [hu]; exact nk_pm1 hu0) ?_
    refine nk_putf pX8_121 dX8_undo_17 mh_0 rfl rfl (Nat.le_of_ble_eq_true rfl) rfl ?_
    refine nk_J.to ?_ rfl rfl mu_I0
    refine nk_aload_n (i := 0) dX8_undo_20 rfl rfl ?_
    refine nk_sipush (v := 134) dX8_undo_21 (by decide) ?_
    refine nk_sipush (v := 134) dX8_undo_24 (by decide) ?_
    refine nk_aload_n (i := 0) dX8_undo_27 rfl rfl ?_
    refine nk_getf fX8_121 dX8_undo_28 mh_0 rfl ?_
    refine nk_top (y := nI (u - 1)) (rfl) ?_
    refine nk_imul dX8_undo_31 ?_
    refine nk_iadd dX8_undo_32 ?_
    refine nk_top (y := nI (134 + 134 * (u - 1))) (by rw [show (134 : Int32) = nI 134 from rfl, pk_mul, nI_add]) ?_
    refine nk_iconst (v := 0) dX8_undo_33 (by decide) ?_
    refine nk_cVv kX8_117 (s_X8_copyShelf hi (a := 134 + 134 * (u - 1)) (b := 0) (by omega) (by omega) (by omega)) dX8_undo_34 mh_0 rfl rfl (by decide) (Nat.le_of_ble_eq_true rfl) ?_
    refine nk_aload_n (i := 0) dX8_undo_37 rfl rfl ?_
    refine nk_getf fX8_121 dX8_undo_38 mh_0 rfl ?_
    refine nk_ireturn dX8_undo_41 rfl ?_
    exact ⟨by rw [if_neg hne]; rfl, by rw [if_neg hne, if_neg hne]⟩
  · skip
    skip
    refine nk_ldc qX8_153 dX8_undo_7 ?_
    refine nk_ireturn dX8_undo_9 rfl ?_
    have e0 : u = 0 := nk_eqI (b := 0) h4 (by omega) (by omega)
    exact ⟨by rw [if_pos e0], by rw [if_pos e0, if_pos e0]⟩
set_option maxRecDepth 20000 in
theorem s_X8_turnOne {G : nk_EG} {ad : Nat → Nat} {A : Nat → Nat → Int32} {I : Nat → Int32} (hi : mInj ad) {m b : Nat} (hm : mSh (A 0) 0 m b) {u : Nat} (hu : I 0 = nI u) (hu24 : u ≤ 24) {s k : Int32} {had : Bool} : nk_Si G mX8_turnOne 4 [.ref (ad 0), .int s, .int k, .int (if had = true then 1 else 0)] (mh ad A I) (sp_turn A u m b s k had) (mh ad (g_A (c_turn A m b s k had) A (a_tk (a_kp (A 0) u) (sp_n s) (sp_n k))) (g_I (c_turn A m b s k had) I u)) := by
  have h4 := hm.2.2.1
  have h10 := hm.2.2.2
  have ht := nk_tp_le h10
  refine nk_S.of (by decide +kernel) (Nat.le_of_ble_eq_true rfl) rfl ?_
  refine nk_aload_n (i := 0) dX8_turnOne_0 rfl rfl ?_
  refine nk_iload_n (i := 1) dX8_turnOne_1 rfl rfl ?_
  refine nk_cVi kX8_154 (s_X8_isSet hi hm.1 hm.2.2.1) dX8_turnOne_2 mh_0 rfl rfl (by decide) (Nat.le_of_ble_eq_true rfl) ?_
  refine nk_ifeq (tgt := 17) dX8_turnOne_5 (by decide) (fun h5 => ?_) (fun h5 => ?_)
  · skip
    try simp only [nk_b0, Int32.toInt_toInt64, Classical.not_not, nk_l0, nk_l1, nk_l2, nk_l60] at h5
    refine nk_ldc qX8_49 dX8_turnOne_17 ?_
    refine nk_ireturn dX8_turnOne_19 rfl ?_
    first
    | (have c : ¬ c_turn A m b s k had := fun z => h5 z.1
       exact ⟨by unfold sp_turn; rw [if_neg h5], by unfold g_A g_I; rw [if_neg c, if_neg c]⟩)
    | (have c : ¬ c_turn A m b s k had := fun z => h14 z.2.1
       exact ⟨by unfold sp_turn; rw [if_pos h5, if_neg h14], by unfold g_A g_I; rw [if_neg c, if_neg c]⟩)
  · skip
    try simp only [nk_b0, Int32.toInt_toInt64, Classical.not_not, nk_l0, nk_l1, nk_l2, nk_l60] at h5
    refine nk_aload_n (i := 0) dX8_turnOne_8 rfl rfl ?_
    refine nk_iload_n (i := 2) dX8_turnOne_9 rfl rfl ?_
    refine nk_i2l dX8_turnOne_10 ?_
    refine nk_cVi kX8_157 (s_X8_isKey hi hm.2.1 hm.2.2.2) dX8_turnOne_11 mh_0 rfl rfl (by decide) (Nat.le_of_ble_eq_true rfl) ?_
    refine nk_ifne (tgt := 20) dX8_turnOne_14 (by decide) (fun h14 => ?_) (fun h14 => ?_)
    · skip
      try simp only [nk_b0, Int32.toInt_toInt64, Classical.not_not, nk_l0, nk_l1, nk_l2, nk_l60] at h14
      obtain ⟨j, hj, rfl⟩ := nk_getN h5
      obtain ⟨k, hk, rfl⟩ := nk_getN h14
      refine nk_aload_n (i := 0) dX8_turnOne_20 rfl rfl ?_
      refine nk_iconst (v := 0) dX8_turnOne_21 (by decide) ?_
      refine nk_iload_n (i := 1) dX8_turnOne_22 rfl rfl ?_
      refine nk_iload_n (i := 2) dX8_turnOne_23 rfl rfl ?_
      refine nk_cVi kX8_137 (s_X8_hasKey hi (base := 0) (s := j) (k := k) (by omega) (by omega)) dX8_turnOne_24 mh_0 rfl rfl (by decide) (Nat.le_of_ble_eq_true rfl) ?_
      refine nk_iload_n (i := 3) dX8_turnOne_27 rfl rfl ?_
      refine nk_icmpeq (tgt := 34) dX8_turnOne_28 (by decide) (fun h28 => ?_) (fun h28 => ?_)
      · skip
        refine nk_aload_n (i := 0) dX8_turnOne_34 rfl rfl ?_
        refine nk_cVv kX8_161 (s_X8_keepPast hi hu hu24) dX8_turnOne_35 mh_0 rfl rfl (by decide) (Nat.le_of_ble_eq_true rfl) ?_
        refine nk_aload_n (i := 0) dX8_turnOne_38 rfl rfl ?_
        refine nk_iconst (v := 0) dX8_turnOne_39 (by decide) ?_
        refine nk_iload_n (i := 1) dX8_turnOne_40 rfl rfl ?_
        refine nk_iload_n (i := 2) dX8_turnOne_41 rfl rfl ?_
        refine nk_cVv kX8_164 (s_X8_turnKey hi (base := 0) (s := j) (k := k) (by omega) (by omega)) dX8_turnOne_42 mh_0 rfl rfl (by decide) (Nat.le_of_ble_eq_true rfl) ?_
        refine nk_aload_n (i := 0) dX8_turnOne_45 rfl rfl ?_
        refine nk_iconst (v := 0) dX8_turnOne_46 (by decide) ?_
        refine nk_iload_n (i := 1) dX8_turnOne_47 rfl rfl ?_
        refine nk_cVi kX8_168 (s_X8_keysOf hi (base := 0) (s := j) (by omega)) dX8_turnOne_48 mh_0 rfl rfl (by decide) (Nat.le_of_ble_eq_true rfl) ?_
        refine nk_ireturn dX8_turnOne_51 rfl ?_
        have d1 : nk_mem (A 0) 0 j k = had := by
          cases had <;> cases hh : nk_mem (A 0) 0 j k <;> rw [hh] at h28 <;> first | rfl | exact absurd h28 (by decide)
        have c : c_turn A m b (nI j) (nI k) had := ⟨h5, h14, by rw [sp_n_nI (by omega), sp_n_nI (by omega)]; exact d1⟩
        exact ⟨by unfold sp_turn; rw [if_pos h5, if_pos h14, sp_n_nI (by omega), sp_n_nI (by omega), if_pos d1]; rfl, by unfold g_A g_I; rw [if_pos c, if_pos c, bx_uu, sp_n_nI (by omega), sp_n_nI (by omega)]; rfl⟩
      · skip
        refine nk_ldc qX8_153 dX8_turnOne_31 ?_
        refine nk_ireturn dX8_turnOne_33 rfl ?_
        have d1 : ¬ nk_mem (A 0) 0 j k = had := fun z => h28 (by rw [z])
        have c : ¬ c_turn A m b (nI j) (nI k) had := fun z => d1 (by have := z.2.2; rw [sp_n_nI (by omega), sp_n_nI (by omega)] at this; exact this)
        exact ⟨by unfold sp_turn; rw [if_pos h5, if_pos h14, sp_n_nI (by omega), sp_n_nI (by omega), if_neg d1], by unfold g_A g_I; rw [if_neg c, if_neg c]⟩
    · skip
      try simp only [nk_b0, Int32.toInt_toInt64, Classical.not_not, nk_l0, nk_l1, nk_l2, nk_l60] at h14
      refine nk_ldc qX8_49 dX8_turnOne_17 ?_
      refine nk_ireturn dX8_turnOne_19 rfl ?_
      first
      | (have c : ¬ c_turn A m b s k had := fun z => h5 z.1
         exact ⟨by unfold sp_turn; rw [if_neg h5], by unfold g_A g_I; rw [if_neg c, if_neg c]⟩)
      | (have c : ¬ c_turn A m b s k had := fun z => h14 z.2.1
         exact ⟨by unfold sp_turn; rw [if_pos h5, if_neg h14], by unfold g_A g_I; rw [if_neg c, if_neg c]⟩)
set_option maxRecDepth 20000 in
theorem s_X8_add {G : nk_EG} {ad : Nat → Nat} {A : Nat → Nat → Int32} {I : Nat → Int32} (hi : mInj ad) {m b : Nat} (hm : mSh (A 0) 0 m b) {u : Nat} (hu : I 0 = nI u) (hu24 : u ≤ 24) {s k : Int32} : nk_Si G mX8_add 5 [.ref (ad 0), .int s, .int k] (mh ad A I) (sp_turn A u m b s k false) (mh ad (g_A (c_turn A m b s k false) A (a_tk (a_kp (A 0) u) (sp_n s) (sp_n k))) (g_I (c_turn A m b s k false) I u)) := by
  refine nk_S.of (by decide +kernel) (Nat.le_of_ble_eq_true rfl) rfl ?_
  refine nk_aload_n (i := 0) dX8_add_0 rfl rfl ?_
  refine nk_iload_n (i := 1) dX8_add_1 rfl rfl ?_
  refine nk_iload_n (i := 2) dX8_add_2 rfl rfl ?_
  refine nk_iconst (v := 0) dX8_add_3 (by decide) ?_
  refine nk_cVi kX8_171 (s_X8_turnOne (had := false) hi hm hu hu24) dX8_add_4 mh_0 rfl rfl (by decide) (Nat.le_of_ble_eq_true rfl) ?_
  refine nk_ireturn dX8_add_7 rfl ?_
  exact ⟨rfl, rfl⟩
set_option maxRecDepth 20000 in
theorem s_X8_take {G : nk_EG} {ad : Nat → Nat} {A : Nat → Nat → Int32} {I : Nat → Int32} (hi : mInj ad) {m b : Nat} (hm : mSh (A 0) 0 m b) {u : Nat} (hu : I 0 = nI u) (hu24 : u ≤ 24) {s k : Int32} : nk_Si G mX8_take 5 [.ref (ad 0), .int s, .int k] (mh ad A I) (sp_turn A u m b s k true) (mh ad (g_A (c_turn A m b s k true) A (a_tk (a_kp (A 0) u) (sp_n s) (sp_n k))) (g_I (c_turn A m b s k true) I u)) := by
  refine nk_S.of (by decide +kernel) (Nat.le_of_ble_eq_true rfl) rfl ?_
  refine nk_aload_n (i := 0) dX8_take_0 rfl rfl ?_
  refine nk_iload_n (i := 1) dX8_take_1 rfl rfl ?_
  refine nk_iload_n (i := 2) dX8_take_2 rfl rfl ?_
  refine nk_iconst (v := 1) dX8_take_3 (by decide) ?_
  refine nk_cVi kX8_171 (s_X8_turnOne (had := true) hi hm hu hu24) dX8_take_4 mh_0 rfl rfl (by decide) (Nat.le_of_ble_eq_true rfl) ?_
  refine nk_ireturn dX8_take_7 rfl ?_
  exact ⟨rfl, rfl⟩

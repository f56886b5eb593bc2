/-! the reference: chases, what all have, covers, gaps -/
set_option maxRecDepth 20000 in
theorem l_X8_chase {G : nk_EG} {ad : Nat → Nat} {A : Nat → Nat → Int32} {I : Nat → Int32} (hi : mInj ad) {m b : Nat} (hm : mSh (A 0) 0 m b) {j j2 k N : Nat} {T : Option Nat} (hj : j < 4) (hj2 : j2 < 4) (hN : N ≤ 60) : ∀ (n : Nat) (i : Nat) (r : Option Nat) (h1 : i ≤ N) (h2 : N < i + n) (h3 : ∀ k, r = some k → k < nk_tp b) (hT : sp_ch (fun j => sp_nx (nk_mem (A 0) 0 j) (nk_tp b) (A 0 (2 + j))) j j2 (N - i) i r = T), nk_J G mX8_chase 6 (nk_ri (nk_rN T) (mh ad A I)) 0 0 47 [some (.ref (ad 0)), some (.int (nI j)), some (.int (nI j2)), some (.int (nI k)), some (.int (nI N)), some (.int (nk_rN r)), some (.int (nI i))] [] (mh ad A I) := by
  intro n
  induction n with
  | zero => intro i r h1 h2 h3 hT; omega
  | succ n ih =>
    intro i r h1 h2 h3 hT
    have h4 := hm.2.2.1
    have h10 := hm.2.2.2
    have ht := nk_tp_le h10
    refine nk_iload dX8_chase_47 rfl ?_
    refine nk_iload dX8_chase_49 rfl ?_
    refine nk_icmpge (tgt := 87) dX8_chase_51 (by decide) (fun h51 => ?_) (fun h51 => ?_)
    · skip
      refine nk_iload dX8_chase_87 rfl ?_
      refine nk_ireturn dX8_chase_89 rfl ?_
      first
      | (have hk2 := nk_leI (a := N) h51 (by omega) (by omega)
         rw [show N - i = 0 by omega] at hT
         exact ⟨by rw [← hT]; rfl, rfl⟩)
      | (rw [h58, sp_ch_none] at hT
         exact ⟨by rw [← hT, h58], rfl⟩)
    · skip
      have hi2 := nk_nleI (a := N) h51 (by omega) (by omega)
      refine nk_iload dX8_chase_54 rfl ?_
      refine nk_ldc qX8_140 dX8_chase_56 ?_
      refine nk_icmpeq (tgt := 87) dX8_chase_58 (by decide) (fun h58 => ?_) (fun h58 => ?_)
      · skip
        rw [nk_rN_none (fun k hk => by have := h3 k hk; omega)] at h58
        refine nk_iload dX8_chase_87 rfl ?_
        refine nk_ireturn dX8_chase_89 rfl ?_
        first
        | (have hk2 := nk_leI (a := N) h51 (by omega) (by omega)
           rw [show N - i = 0 by omega] at hT
           exact ⟨by rw [← hT]; rfl, rfl⟩)
        | (rw [h58, sp_ch_none] at hT
           exact ⟨by rw [← hT, h58], rfl⟩)
      · skip
        rw [nk_rN_none (fun k hk => by have := h3 k hk; omega)] at h58
        obtain ⟨q, hq⟩ := Option.ne_none_iff_exists'.mp h58
        subst hq
        have hq2 := h3 q rfl
        rw [sp_ch_step hi2] at hT
        refine nk_aload_n (i := 0) dX8_chase_61 rfl rfl ?_
        refine nk_iload dX8_chase_62 rfl ?_
        refine nk_iconst (v := 2) dX8_chase_64 (by decide) ?_
        refine nk_irem dX8_chase_65 (by decide) ?_
        refine nk_top (y := nI (i % 2)) (pk_rem (d := 2) (by omega) (by omega) (by omega)) ?_
        refine nk_ifne (tgt := 73) dX8_chase_66 (by decide) (fun h66 => ?_) (fun h66 => ?_)
        · skip
          refine nk_iload_n (i := 2) dX8_chase_73 rfl rfl ?_
          refine nk_iload dX8_chase_74 rfl ?_
          refine nk_top (y := nI q) (rfl) ?_
          refine nk_cVi kX8_183 (s_X8_nextOf hi hm (by assumption) hq2) dX8_chase_76 mh_0 rfl rfl (by decide) (Nat.le_of_ble_eq_true rfl) ?_
          refine nk_istoreT dX8_chase_79 (by decide) ?_
          refine nk_iincT dX8_chase_81 rfl (nk_i1 i) (by decide) ?_
          refine nk_goto (tgt := 47) dX8_chase_84 (by decide) ?_
          first
          | (have e2 : i % 2 = 0 := nk_eqI (a := i % 2) (b := 0) h66 (by omega) (by omega)
             rw [if_pos e2] at hT
             exact ih (i + 1) _ (by omega) (by omega) (fun k hk => sp_nx_lt hq2 hk) hT)
          | (rw [if_neg (fun e2 => h66 (by rw [e2]; rfl))] at hT
             exact ih (i + 1) _ (by omega) (by omega) (fun k hk => sp_nx_lt hq2 hk) hT)
        · skip
          refine nk_iload_n (i := 1) dX8_chase_69 rfl rfl ?_
          refine nk_goto (tgt := 74) dX8_chase_70 (by decide) ?_
          refine nk_iload dX8_chase_74 rfl ?_
          refine nk_top (y := nI q) (rfl) ?_
          refine nk_cVi kX8_183 (s_X8_nextOf hi hm (by assumption) hq2) dX8_chase_76 mh_0 rfl rfl (by decide) (Nat.le_of_ble_eq_true rfl) ?_
          refine nk_istoreT dX8_chase_79 (by decide) ?_
          refine nk_iincT dX8_chase_81 rfl (nk_i1 i) (by decide) ?_
          refine nk_goto (tgt := 47) dX8_chase_84 (by decide) ?_
          first
          | (have e2 : i % 2 = 0 := nk_eqI (a := i % 2) (b := 0) h66 (by omega) (by omega)
             rw [if_pos e2] at hT
             exact ih (i + 1) _ (by omega) (by omega) (fun k hk => sp_nx_lt hq2 hk) hT)
          | (rw [if_neg (fun e2 => h66 (by rw [e2]; rfl))] at hT
             exact ih (i + 1) _ (by omega) (by omega) (fun k hk => sp_nx_lt hq2 hk) hT)
set_option maxRecDepth 20000 in
theorem s_X8_chase {G : nk_EG} {ad : Nat → Nat} {A : Nat → Nat → Int32} {I : Nat → Int32} (hi : mInj ad) {m b : Nat} (hm : mSh (A 0) 0 m b) {s s2 k x : Int32} : nk_Si G mX8_chase 6 [.ref (ad 0), .int s, .int s2, .int k, .int x] (mh ad A I) (sp_chase m b (nk_mem (A 0) 0) (fun j => A 0 (2 + j)) s s2 k x) (mh ad A I) := by
  have h4 := hm.2.2.1
  have h10 := hm.2.2.2
  have ht := nk_tp_le h10
  refine nk_S.of (by decide +kernel) (Nat.le_of_ble_eq_true rfl) rfl ?_
  refine nk_aload_n (i := 0) dX8_chase_0 rfl rfl ?_
  refine nk_iload_n (i := 1) dX8_chase_1 rfl rfl ?_
  refine nk_cVi kX8_154 (s_X8_isSet hi hm.1 hm.2.2.1) dX8_chase_2 mh_0 rfl rfl (by decide) (Nat.le_of_ble_eq_true rfl) ?_
  refine nk_ifeq (tgt := 38) dX8_chase_5 (by decide) (fun h5 => ?_) (fun h5 => ?_)
  · skip
    try simp only [nk_b0, Int32.toInt_toInt64, Classical.not_not, nk_l0, nk_l1, nk_l2, nk_l60] at h5
    refine nk_ldc qX8_49 dX8_chase_38 ?_
    refine nk_ireturn dX8_chase_40 rfl ?_
    first
    | exact ⟨by unfold sp_chase; rw [if_neg h5], rfl⟩
    | exact ⟨by unfold sp_chase; rw [if_pos h5, if_neg h13], rfl⟩
    | exact ⟨by unfold sp_chase; rw [if_pos h5, if_pos h13, if_neg h22], rfl⟩
    | exact ⟨by unfold sp_chase; rw [if_pos h5, if_pos h13, if_pos h22, if_neg h35], rfl⟩
  · skip
    try simp only [nk_b0, Int32.toInt_toInt64, Classical.not_not, nk_l0, nk_l1, nk_l2, nk_l60] at h5
    refine nk_aload_n (i := 0) dX8_chase_8 rfl rfl ?_
    refine nk_iload_n (i := 2) dX8_chase_9 rfl rfl ?_
    refine nk_cVi kX8_154 (s_X8_isSet hi hm.1 hm.2.2.1) dX8_chase_10 mh_0 rfl rfl (by decide) (Nat.le_of_ble_eq_true rfl) ?_
    refine nk_ifeq (tgt := 38) dX8_chase_13 (by decide) (fun h13 => ?_) (fun h13 => ?_)
    · skip
      try simp only [nk_b0, Int32.toInt_toInt64, Classical.not_not, nk_l0, nk_l1, nk_l2, nk_l60] at h13
      refine nk_ldc qX8_49 dX8_chase_38 ?_
      refine nk_ireturn dX8_chase_40 rfl ?_
      first
      | exact ⟨by unfold sp_chase; rw [if_neg h5], rfl⟩
      | exact ⟨by unfold sp_chase; rw [if_pos h5, if_neg h13], rfl⟩
      | exact ⟨by unfold sp_chase; rw [if_pos h5, if_pos h13, if_neg h22], rfl⟩
      | exact ⟨by unfold sp_chase; rw [if_pos h5, if_pos h13, if_pos h22, if_neg h35], rfl⟩
    · skip
      try simp only [nk_b0, Int32.toInt_toInt64, Classical.not_not, nk_l0, nk_l1, nk_l2, nk_l60] at h13
      refine nk_aload_n (i := 0) dX8_chase_16 rfl rfl ?_
      refine nk_iload_n (i := 3) dX8_chase_17 rfl rfl ?_
      refine nk_i2l dX8_chase_18 ?_
      refine nk_cVi kX8_157 (s_X8_isKey hi hm.2.1 hm.2.2.2) dX8_chase_19 mh_0 rfl rfl (by decide) (Nat.le_of_ble_eq_true rfl) ?_
      refine nk_ifeq (tgt := 38) dX8_chase_22 (by decide) (fun h22 => ?_) (fun h22 => ?_)
      · skip
        try simp only [nk_b0, Int32.toInt_toInt64, Classical.not_not, nk_l0, nk_l1, nk_l2, nk_l60] at h22
        refine nk_ldc qX8_49 dX8_chase_38 ?_
        refine nk_ireturn dX8_chase_40 rfl ?_
        first
        | exact ⟨by unfold sp_chase; rw [if_neg h5], rfl⟩
        | exact ⟨by unfold sp_chase; rw [if_pos h5, if_neg h13], rfl⟩
        | exact ⟨by unfold sp_chase; rw [if_pos h5, if_pos h13, if_neg h22], rfl⟩
        | exact ⟨by unfold sp_chase; rw [if_pos h5, if_pos h13, if_pos h22, if_neg h35], rfl⟩
      · skip
        try simp only [nk_b0, Int32.toInt_toInt64, Classical.not_not, nk_l0, nk_l1, nk_l2, nk_l60] at h22
        refine nk_iload dX8_chase_25 rfl ?_
        refine nk_i2l dX8_chase_27 ?_
        refine nk_lconst (v := 0) dX8_chase_28 rfl ?_
        refine nk_ldc2 qX8_281 dX8_chase_29 ?_
        refine nk_cSi kX8_39 (s_X8_in) dX8_chase_32 rfl rfl (by decide) (Nat.le_of_ble_eq_true rfl) ?_
        refine nk_ifne (tgt := 41) dX8_chase_35 (by decide) (fun h35 => ?_) (fun h35 => ?_)
        · skip
          try simp only [nk_b0, Int32.toInt_toInt64, Classical.not_not, nk_l0, nk_l1, nk_l2, nk_l60] at h35
          obtain ⟨j, hj, rfl⟩ := nk_getN h5
          obtain ⟨j2, hj2, rfl⟩ := nk_getN h13
          obtain ⟨k, hk, rfl⟩ := nk_getN h22
          obtain ⟨N, hN, rfl⟩ := nk_getR (n := 60) h35
          unfold sp_chase
          rw [if_pos h5, if_pos h13, if_pos h22, if_pos h35, sp_n_nI (by omega), sp_n_nI (by omega), sp_n_nI (by omega), sp_n_nI (by omega)]
          refine nk_iload_n (i := 3) dX8_chase_41 rfl rfl ?_
          refine nk_istoreT dX8_chase_42 (by decide) ?_
          refine nk_iconst (v := 0) dX8_chase_44 (by decide) ?_
          refine nk_istoreT dX8_chase_45 (by decide) ?_
          exact l_X8_chase hi hm (by omega) (by omega) hN (N + 1) 0 (some k) (by omega) (by omega) (fun q hq => by cases hq; exact hk) rfl
        · skip
          try simp only [nk_b0, Int32.toInt_toInt64, Classical.not_not, nk_l0, nk_l1, nk_l2, nk_l60] at h35
          refine nk_ldc qX8_49 dX8_chase_38 ?_
          refine nk_ireturn dX8_chase_40 rfl ?_
          first
          | exact ⟨by unfold sp_chase; rw [if_neg h5], rfl⟩
          | exact ⟨by unfold sp_chase; rw [if_pos h5, if_neg h13], rfl⟩
          | exact ⟨by unfold sp_chase; rw [if_pos h5, if_pos h13, if_neg h22], rfl⟩
          | exact ⟨by unfold sp_chase; rw [if_pos h5, if_pos h13, if_pos h22, if_neg h35], rfl⟩
set_option maxRecDepth 20000 in
theorem l_X8_meetI {G : nk_EG} {ad : Nat → Nat} {A : Nat → Nat → Int32} {I : Nat → Int32} (hi : mInj ad) {m b : Nat} (hm : mSh (A 0) 0 m b) {Φ : Option Value → nk_AH → Prop} {x : Int32} {k : Nat} (hk : k < nk_tp b) (kk : nk_J G mX8_meet 4 Φ 0 0 65 [some (.ref (ad 0)), some (.int x), some (.int (nI k)), some (.int (if sp_all (nk_mem (A 0) 0) k m = true then 1 else 0)), some (.int (nI m))] [] (mh ad A I)) : ∀ (n : Nat) (i : Nat) (h1 : i ≤ m) (h2 : m < i + n), nk_J G mX8_meet 4 (Φ) 0 0 27 [some (.ref (ad 0)), some (.int x), some (.int (nI k)), some (.int (if sp_all (nk_mem (A 0) 0) k i = true then 1 else 0)), some (.int (nI i))] [] (mh ad A I) := by
  intro n
  induction n with
  | zero => intro i h1 h2; omega
  | succ n ih =>
    intro i h1 h2
    have h4 := hm.2.2.1
    have h10 := hm.2.2.2
    have ht := nk_tp_le h10
    refine nk_iload dX8_meet_27 rfl ?_
    refine nk_aload_n (i := 0) dX8_meet_29 rfl rfl ?_
    refine nk_getf fX8_7 dX8_meet_30 mh_0 rfl ?_
    refine nk_iconst (v := 0) dX8_meet_33 (by decide) ?_
    refine nk_ialdN (j := 0) dX8_meet_34 (mh_1 hi) (rfl) (by omega) (by decide) ?_
    rw [hm.1]
    refine nk_icmpge (tgt := 65) dX8_meet_35 (by decide) (fun h35 => ?_) (fun h35 => ?_)
    · skip
      have e2 : i = m := Nat.le_antisymm h1 (nk_leI h35 (by omega) (by omega))
      subst e2
      exact kk
    · skip
      have hi2 := nk_nleI (a := m) h35 (by omega) (by omega)
      refine nk_iload_n (i := 3) dX8_meet_38 rfl rfl ?_
      refine nk_ifeq (tgt := 57) dX8_meet_39 (by decide) (fun h39 => ?_) (fun h39 => ?_)
      · skip
        rw [nk_b0] at h39
        refine nk_iconst (v := 0) dX8_meet_57 (by decide) ?_
        refine nk_top (y := (if sp_all (nk_mem (A 0) 0) k (i + 1) = true then 1 else 0)) (by
          rw [sp_all]
          first
          | simp [h39, h50]
          | simp [h39]) ?_
        refine nk_istore_nT (i := 3) dX8_meet_58 rfl (by decide) ?_
        refine nk_iincT dX8_meet_59 rfl (nk_i1 i) (by decide) ?_
        refine nk_goto (tgt := 27) dX8_meet_62 (by decide) ?_
        exact ih (i + 1) (by omega) (by omega)
      · skip
        rw [nk_b0] at h39
        refine nk_aload_n (i := 0) dX8_meet_42 rfl rfl ?_
        refine nk_iconst (v := 0) dX8_meet_43 (by decide) ?_
        refine nk_iload dX8_meet_44 rfl ?_
        refine nk_iload_n (i := 2) dX8_meet_46 rfl rfl ?_
        refine nk_cVi kX8_137 (s_X8_hasKey hi (base := 0) (s := i) (k := k) (by omega) (by omega)) dX8_meet_47 mh_0 rfl rfl (by decide) (Nat.le_of_ble_eq_true rfl) ?_
        refine nk_ifeq (tgt := 57) dX8_meet_50 (by decide) (fun h50 => ?_) (fun h50 => ?_)
        · skip
          rw [nk_b0] at h50
          refine nk_iconst (v := 0) dX8_meet_57 (by decide) ?_
          refine nk_top (y := (if sp_all (nk_mem (A 0) 0) k (i + 1) = true then 1 else 0)) (by
            rw [sp_all]
            first
            | simp [h39, h50]
            | simp [h39]) ?_
          refine nk_istore_nT (i := 3) dX8_meet_58 rfl (by decide) ?_
          refine nk_iincT dX8_meet_59 rfl (nk_i1 i) (by decide) ?_
          refine nk_goto (tgt := 27) dX8_meet_62 (by decide) ?_
          exact ih (i + 1) (by omega) (by omega)
        · skip
          rw [nk_b0] at h50
          refine nk_iconst (v := 1) dX8_meet_53 (by decide) ?_
          refine nk_goto (tgt := 58) dX8_meet_54 (by decide) ?_
          refine nk_top (y := (if sp_all (nk_mem (A 0) 0) k (i + 1) = true then 1 else 0)) (by
            rw [sp_all]
            first
            | simp [h39, h50]
            | simp [h39]) ?_
          refine nk_istore_nT (i := 3) dX8_meet_58 rfl (by decide) ?_
          refine nk_iincT dX8_meet_59 rfl (nk_i1 i) (by decide) ?_
          refine nk_goto (tgt := 27) dX8_meet_62 (by decide) ?_
          exact ih (i + 1) (by omega) (by omega)
set_option maxRecDepth 20000 in
theorem l_X8_meet {G : nk_EG} {ad : Nat → Nat} {A : Nat → Nat → Int32} {I : Nat → Int32} (hi : mInj ad) {m b : Nat} (hm : mSh (A 0) 0 m b) {x : Int32} {a : Nat} : ∀ (n : Nat) (k : Nat) (l3 l4 : Option Value) (h0 : a ≤ k) (h1 : k ≤ nk_tp b) (h2 : nk_tp b < k + n) (h3 : ∀ j, a ≤ j → j < k → sp_all (nk_mem (A 0) 0) j m = false), nk_J G mX8_meet 4 (nk_ri (nk_rN (nk_up (fun j => sp_all (nk_mem (A 0) 0) j m) a (nk_tp b - a))) (mh ad A I)) 0 0 14 [some (.ref (ad 0)), some (.int x), some (.int (nI k)), l3, l4] [] (mh ad A I) := by
  intro n
  induction n with
  | zero => intro k l3 l4 h0 h1 h2 h3; omega
  | succ n ih =>
    intro k l3 l4 h0 h1 h2 h3
    have h4 := hm.2.2.1
    have h10 := hm.2.2.2
    have ht := nk_tp_le h10
    refine nk_iload_n (i := 2) dX8_meet_14 rfl rfl ?_
    refine nk_aload_n (i := 0) dX8_meet_15 rfl rfl ?_
    refine nk_cVi kX8_127 (s_X8_top hi hm.2.1 hm.2.2.2) dX8_meet_16 mh_0 rfl rfl (by decide) (Nat.le_of_ble_eq_true rfl) ?_
    refine nk_icmpge (tgt := 77) dX8_meet_19 (by decide) (fun h19 => ?_) (fun h19 => ?_)
    · skip
      refine nk_ldc qX8_140 dX8_meet_77 ?_
      refine nk_ireturn dX8_meet_79 rfl ?_
      have hk := nk_leI (a := nk_tp b) h19 (by omega) (by omega)
      exact ⟨by rw [nk_up_no (fun j j1 j2 => h3 j j1 (by omega))]; rfl, rfl⟩
    · skip
      have hk := nk_nleI (a := nk_tp b) h19 (by omega) (by omega)
      refine nk_iconst (v := 1) dX8_meet_22 (by decide) ?_
      refine nk_istore_nT (i := 3) dX8_meet_23 rfl (by decide) ?_
      refine nk_iconst (v := 0) dX8_meet_24 (by decide) ?_
      refine nk_istoreT dX8_meet_25 (by decide) ?_
      refine l_X8_meetI hi hm hk ?_ (m + 1) 0 (by omega) (by omega)
      refine nk_iload_n (i := 3) dX8_meet_65 rfl rfl ?_
      refine nk_ifeq (tgt := 71) dX8_meet_66 (by decide) (fun h66 => ?_) (fun h66 => ?_)
      · skip
        rw [nk_b0] at h66
        refine nk_iincT dX8_meet_71 rfl (nk_i1 k) (by decide) ?_
        refine nk_goto (tgt := 14) dX8_meet_74 (by decide) ?_
        exact ih (k + 1) _ _ (by omega) (by omega) (by omega) (fun j j1 j2 => by
          rcases Nat.eq_or_lt_of_le (Nat.le_of_lt_succ j2) with e | e
          · subst e; simpa using h66
          · exact h3 j j1 e)
      · skip
        rw [nk_b0] at h66
        refine nk_iload_n (i := 2) dX8_meet_69 rfl rfl ?_
        refine nk_ireturn dX8_meet_70 rfl ?_
        exact ⟨by rw [nk_up_eq (k := k) h0 (by omega) (by simpa using h66) h3]; rfl, rfl⟩
set_option maxRecDepth 20000 in
theorem s_X8_meet {G : nk_EG} {ad : Nat → Nat} {A : Nat → Nat → Int32} {I : Nat → Int32} (hi : mInj ad) {m b : Nat} (hm : mSh (A 0) 0 m b) {k : Int32} : nk_Si G mX8_meet 4 [.ref (ad 0), .int k] (mh ad A I) (sp_meet m b (nk_mem (A 0) 0) k) (mh ad A I) := by
  have h4 := hm.2.2.1
  have h10 := hm.2.2.2
  have ht := nk_tp_le h10
  refine nk_S.of (by decide +kernel) (Nat.le_of_ble_eq_true rfl) rfl ?_
  refine nk_aload_n (i := 0) dX8_meet_0 rfl rfl ?_
  refine nk_iload_n (i := 1) dX8_meet_1 rfl rfl ?_
  refine nk_i2l dX8_meet_2 ?_
  refine nk_cVi kX8_157 (s_X8_isKey hi hm.2.1 hm.2.2.2) dX8_meet_3 mh_0 rfl rfl (by decide) (Nat.le_of_ble_eq_true rfl) ?_
  refine nk_ifne (tgt := 12) dX8_meet_6 (by decide) (fun h6 => ?_) (fun h6 => ?_)
  · skip
    try simp only [nk_b0, Int32.toInt_toInt64, Classical.not_not, nk_l0, nk_l1, nk_l2, nk_l60] at h6
    obtain ⟨k, hk, rfl⟩ := nk_getN h6
    unfold sp_meet
    rw [if_pos h6, sp_n_nI (by omega)]
    refine nk_iload_n (i := 1) dX8_meet_12 rfl rfl ?_
    refine nk_istore_nT (i := 2) dX8_meet_13 rfl (by decide) ?_
    exact l_X8_meet hi hm (nk_tp b + 1) k none none (Nat.le_refl _) (by omega) (by omega) (fun j j1 j2 => by omega)
  · skip
    try simp only [nk_b0, Int32.toInt_toInt64, Classical.not_not, nk_l0, nk_l1, nk_l2, nk_l60] at h6
    refine nk_ldc qX8_49 dX8_meet_9 ?_
    refine nk_ireturn dX8_meet_11 rfl ?_
    exact ⟨by unfold sp_meet; rw [if_neg h6], rfl⟩
set_option maxRecDepth 20000 in
theorem l_X8_isCoveredI {G : nk_EG} {ad : Nat → Nat} {A : Nat → Nat → Int32} {I : Nat → Int32} (hi : mInj ad) {m b : Nat} (hm : mSh (A 0) 0 m b) {Φ : Option Value → nk_AH → Prop} {x a c : Int32} {k : Nat} (hk : k < nk_tp b) (kk : nk_J G mX8_isCovered 3 Φ 0 0 65 [some (.ref (ad 0)), some (.int x), some (.int a), some (.int c), some (.int (nI k)), some (.int (if sp_any (nk_mem (A 0) 0) x k m = true then 1 else 0)), some (.int (nI m))] [] (mh ad A I)) : ∀ (n : Nat) (i : Nat) (h1 : i ≤ m) (h2 : m < i + n), nk_J G mX8_isCovered 3 (Φ) 0 0 15 [some (.ref (ad 0)), some (.int x), some (.int a), some (.int c), some (.int (nI k)), some (.int (if sp_any (nk_mem (A 0) 0) x k i = true then 1 else 0)), some (.int (nI i))] [] (mh ad A I) := by
  intro n
  induction n with
  | zero => intro i h1 h2; omega
  | succ n ih =>
    intro i h1 h2
    have h4 := hm.2.2.1
    have h10 := hm.2.2.2
    have ht := nk_tp_le h10
    refine nk_iload dX8_isCovered_15 rfl ?_
    refine nk_aload_n (i := 0) dX8_isCovered_17 rfl rfl ?_
    refine nk_getf fX8_7 dX8_isCovered_18 mh_0 rfl ?_
    refine nk_iconst (v := 0) dX8_isCovered_21 (by decide) ?_
    refine nk_ialdN (j := 0) dX8_isCovered_22 (mh_1 hi) (rfl) (by omega) (by decide) ?_
    rw [hm.1]
    refine nk_icmpge (tgt := 65) dX8_isCovered_23 (by decide) (fun h23 => ?_) (fun h23 => ?_)
    · skip
      have e2 : i = m := Nat.le_antisymm h1 (nk_leI h23 (by omega) (by omega))
      subst e2
      exact kk
    · skip
      have hi2 := nk_nleI (a := m) h23 (by omega) (by omega)
      refine nk_iload dX8_isCovered_26 rfl ?_
      refine nk_ifne (tgt := 52) dX8_isCovered_28 (by decide) (fun h28 => ?_) (fun h28 => ?_)
      · skip
        rw [nk_b0] at h28
        refine nk_iconst (v := 1) dX8_isCovered_52 (by decide) ?_
        refine nk_goto (tgt := 57) dX8_isCovered_53 (by decide) ?_
        refine nk_top (y := (if sp_any (nk_mem (A 0) 0) x k (i + 1) = true then 1 else 0)) (by
          rw [sp_any]
          first
          | simp [h28, h37, h49]
          | simp [h28, h37]
          | simp [h28]) ?_
        refine nk_istoreT dX8_isCovered_57 (by decide) ?_
        refine nk_iincT dX8_isCovered_59 rfl (nk_i1 i) (by decide) ?_
        refine nk_goto (tgt := 15) dX8_isCovered_62 (by decide) ?_
        exact ih (i + 1) (by omega) (by omega)
      · skip
        rw [nk_b0] at h28
        refine nk_iload_n (i := 1) dX8_isCovered_31 rfl rfl ?_
        refine nk_iload dX8_isCovered_32 rfl ?_
        refine nk_cSi kX8_131 (s_X8_has) dX8_isCovered_34 rfl rfl (by decide) (Nat.le_of_ble_eq_true rfl) ?_
        refine nk_ifeq (tgt := 56) dX8_isCovered_37 (by decide) (fun h37 => ?_) (fun h37 => ?_)
        · skip
          rw [nk_b0, pf_bit_iff _ (by omega)] at h37
          refine nk_iconst (v := 0) dX8_isCovered_56 (by decide) ?_
          refine nk_top (y := (if sp_any (nk_mem (A 0) 0) x k (i + 1) = true then 1 else 0)) (by
            rw [sp_any]
            first
            | simp [h28, h37, h49]
            | simp [h28, h37]
            | simp [h28]) ?_
          refine nk_istoreT dX8_isCovered_57 (by decide) ?_
          refine nk_iincT dX8_isCovered_59 rfl (nk_i1 i) (by decide) ?_
          refine nk_goto (tgt := 15) dX8_isCovered_62 (by decide) ?_
          exact ih (i + 1) (by omega) (by omega)
        · skip
          rw [nk_b0, pf_bit_iff _ (by omega)] at h37
          refine nk_aload_n (i := 0) dX8_isCovered_40 rfl rfl ?_
          refine nk_iconst (v := 0) dX8_isCovered_41 (by decide) ?_
          refine nk_iload dX8_isCovered_42 rfl ?_
          refine nk_iload dX8_isCovered_44 rfl ?_
          refine nk_cVi kX8_137 (s_X8_hasKey hi (base := 0) (s := i) (k := k) (by omega) (by omega)) dX8_isCovered_46 mh_0 rfl rfl (by decide) (Nat.le_of_ble_eq_true rfl) ?_
          refine nk_ifeq (tgt := 56) dX8_isCovered_49 (by decide) (fun h49 => ?_) (fun h49 => ?_)
          · skip
            rw [nk_b0] at h49
            refine nk_iconst (v := 0) dX8_isCovered_56 (by decide) ?_
            refine nk_top (y := (if sp_any (nk_mem (A 0) 0) x k (i + 1) = true then 1 else 0)) (by
              rw [sp_any]
              first
              | simp [h28, h37, h49]
              | simp [h28, h37]
              | simp [h28]) ?_
            refine nk_istoreT dX8_isCovered_57 (by decide) ?_
            refine nk_iincT dX8_isCovered_59 rfl (nk_i1 i) (by decide) ?_
            refine nk_goto (tgt := 15) dX8_isCovered_62 (by decide) ?_
            exact ih (i + 1) (by omega) (by omega)
          · skip
            rw [nk_b0] at h49
            refine nk_iconst (v := 1) dX8_isCovered_52 (by decide) ?_
            refine nk_goto (tgt := 57) dX8_isCovered_53 (by decide) ?_
            refine nk_top (y := (if sp_any (nk_mem (A 0) 0) x k (i + 1) = true then 1 else 0)) (by
              rw [sp_any]
              first
              | simp [h28, h37, h49]
              | simp [h28, h37]
              | simp [h28]) ?_
            refine nk_istoreT dX8_isCovered_57 (by decide) ?_
            refine nk_iincT dX8_isCovered_59 rfl (nk_i1 i) (by decide) ?_
            refine nk_goto (tgt := 15) dX8_isCovered_62 (by decide) ?_
            exact ih (i + 1) (by omega) (by omega)
set_option maxRecDepth 20000 in
theorem l_X8_isCovered {G : nk_EG} {ad : Nat → Nat} {A : Nat → Nat → Int32} {I : Nat → Int32} (hi : mInj ad) {m b : Nat} (hm : mSh (A 0) 0 m b) {x a : Int32} {c : Nat} {T : Bool} (hc : c < nk_tp b) : ∀ (n : Nat) (k : Nat) (l5 l6 : Option Value) (h1 : k ≤ c + 1) (h2 : c + 1 < k + n) (hT : sp_cov (nk_mem (A 0) 0) m x k (c + 1 - k) = T), nk_J G mX8_isCovered 3 (nk_ri (if T = true then 1 else 0) (mh ad A I)) 0 0 3 [some (.ref (ad 0)), some (.int x), some (.int a), some (.int (nI c)), some (.int (nI k)), l5, l6] [] (mh ad A I) := by
  intro n
  induction n with
  | zero => intro k l5 l6 h1 h2 hT; omega
  | succ n ih =>
    intro k l5 l6 h1 h2 hT
    have h4 := hm.2.2.1
    have h10 := hm.2.2.2
    have ht := nk_tp_le h10
    refine nk_iload dX8_isCovered_3 rfl ?_
    refine nk_iload_n (i := 3) dX8_isCovered_5 rfl rfl ?_
    refine nk_icmpgt (tgt := 78) dX8_isCovered_6 (by decide) (fun h6 => ?_) (fun h6 => ?_)
    · skip
      refine nk_iconst (v := 1) dX8_isCovered_78 (by decide) ?_
      refine nk_zreturn dX8_isCovered_79 rfl rfl ?_
      have hk := nk_ltI (a := c) h6 (by omega) (by omega)
      rw [show c + 1 - k = 0 by omega] at hT
      exact ⟨by rw [← hT]; rfl, rfl⟩
    · skip
      have hk := nk_nltI (a := c) h6 (by omega) (by omega)
      rw [sp_cov_step hk] at hT
      refine nk_iconst (v := 0) dX8_isCovered_9 (by decide) ?_
      refine nk_istoreT dX8_isCovered_10 (by decide) ?_
      refine nk_iconst (v := 0) dX8_isCovered_12 (by decide) ?_
      refine nk_istoreT dX8_isCovered_13 (by decide) ?_
      refine l_X8_isCoveredI hi hm (by omega) ?_ (m + 1) 0 (by omega) (by omega)
      refine nk_iload dX8_isCovered_65 rfl ?_
      refine nk_ifne (tgt := 72) dX8_isCovered_67 (by decide) (fun h67 => ?_) (fun h67 => ?_)
      · skip
        rw [nk_b0] at h67
        refine nk_iincT dX8_isCovered_72 rfl (nk_i1 k) (by decide) ?_
        refine nk_goto (tgt := 3) dX8_isCovered_75 (by decide) ?_
        rw [Classical.not_not.mp h67, Bool.true_and] at hT
        exact ih (k + 1) _ _ (by omega) (by omega) hT
      · skip
        rw [nk_b0] at h67
        refine nk_iconst (v := 0) dX8_isCovered_70 (by decide) ?_
        refine nk_zreturn dX8_isCovered_71 rfl rfl ?_
        have e2 : sp_any (nk_mem (A 0) 0) x k m = false := by simpa using h67
        rw [e2, Bool.false_and] at hT
        exact ⟨by rw [← hT]; rfl, rfl⟩
set_option maxRecDepth 20000 in
theorem s_X8_isCovered {G : nk_EG} {ad : Nat → Nat} {A : Nat → Nat → Int32} {I : Nat → Int32} (hi : mInj ad) {m b : Nat} (hm : mSh (A 0) 0 m b) {x : Int32} {a c : Nat} (ha : a ≤ c) (hc : c < nk_tp b) : nk_Si G mX8_isCovered 3 [.ref (ad 0), .int x, .int (nI a), .int (nI c)] (mh ad A I) (if sp_cov (nk_mem (A 0) 0) m x a (c + 1 - a) = true then 1 else 0) (mh ad A I) := by
  have h4 := hm.2.2.1
  have h10 := hm.2.2.2
  have ht := nk_tp_le h10
  refine nk_S.of (by decide +kernel) (Nat.le_of_ble_eq_true rfl) rfl ?_
  refine nk_iload_n (i := 2) dX8_isCovered_0 rfl rfl ?_
  refine nk_istoreT dX8_isCovered_1 (by decide) ?_
  exact l_X8_isCovered hi hm hc (c + 2) a none none (by omega) (by omega) rfl

/-! the reference: the tree of a set -/
set_option maxRecDepth 20000 in
theorem s_X8_lowBits {G : nk_EG} {ad : Nat → Nat} {A : Nat → Nat → Int32} {I : Nat → Int32} (hi : mInj ad) {m b : Nat} (hm : mSh (A 0) 0 m b) : nk_Si G mX8_lowBits 1 [.ref (ad 0)] (mh ad A I) (nI (b / 2)) (mh ad A I) := by
  have h4 := hm.2.2.1
  have h10 := hm.2.2.2
  have ht := nk_tp_le h10
  refine nk_S.of (by decide +kernel) (Nat.le_of_ble_eq_true rfl) rfl ?_
  refine nk_aload_n (i := 0) dX8_lowBits_0 rfl rfl ?_
  refine nk_getf fX8_7 dX8_lowBits_1 mh_0 rfl ?_
  refine nk_iconst (v := 1) dX8_lowBits_4 (by decide) ?_
  refine nk_ialdN (j := 1) dX8_lowBits_5 (mh_1 hi) (rfl) (by omega) (by decide) ?_
  refine nk_iconst (v := 2) dX8_lowBits_6 (by decide) ?_
  refine nk_idiv dX8_lowBits_7 (by decide) ?_
  refine nk_ireturn dX8_lowBits_8 rfl ?_
  exact ⟨by rw [hm.2.1]; exact congrArg some (congrArg Value.int (pk_div (d := 2) (by omega) (by omega) (by omega))), rfl⟩
set_option maxRecDepth 20000 in
theorem s_X8_highBits {G : nk_EG} {ad : Nat → Nat} {A : Nat → Nat → Int32} {I : Nat → Int32} (hi : mInj ad) {m b : Nat} (hm : mSh (A 0) 0 m b) : nk_Si G mX8_highBits 2 [.ref (ad 0)] (mh ad A I) (nI (b - b / 2)) (mh ad A I) := by
  have h4 := hm.2.2.1
  have h10 := hm.2.2.2
  have ht := nk_tp_le h10
  refine nk_S.of (by decide +kernel) (Nat.le_of_ble_eq_true rfl) rfl ?_
  refine nk_aload_n (i := 0) dX8_highBits_0 rfl rfl ?_
  refine nk_getf fX8_7 dX8_highBits_1 mh_0 rfl ?_
  refine nk_iconst (v := 1) dX8_highBits_4 (by decide) ?_
  refine nk_ialdN (j := 1) dX8_highBits_5 (mh_1 hi) (rfl) (by omega) (by decide) ?_
  refine nk_aload_n (i := 0) dX8_highBits_6 rfl rfl ?_
  refine nk_cVi kX8_226 (s_X8_lowBits hi hm) dX8_highBits_7 mh_0 rfl rfl (by decide) (Nat.le_of_ble_eq_true rfl) ?_
  refine nk_isub dX8_highBits_10 ?_
  refine nk_ireturn dX8_highBits_11 rfl ?_
  exact ⟨by rw [hm.2.1, pk_sub (by omega)], rfl⟩
set_option maxRecDepth 20000 in
theorem l_X8_clusterOf {G : nk_EG} {ad : Nat → Nat} {A : Nat → Nat → Int32} {I : Nat → Int32} (hi : mInj ad) {m b : Nat} (hm : mSh (A 0) 0 m b) {j x : Nat} (hj : j < 4) (hx : x < 2 ^ (b - b / 2)) : ∀ (n : Nat) (k : Nat) (l7 : Option Value) (h1 : k ≤ 2 ^ (b / 2)) (h2 : 2 ^ (b / 2) < k + n), nk_J G mX8_clusterOf 5 (nk_ri (sp_c (nk_mem (A 0) 0 j) b x) (mh ad A I)) 0 0 18 [some (.ref (ad 0)), some (.int (nI j)), some (.int (nI x)), some (.int (nI (b / 2))), some (.int (nk_rN (nk_up (nk_mem (A 0) 0 j) 0 (nk_tp b)))), some (.int (sp_cl (nk_mem (A 0) 0 j) (nk_tp b) (b / 2) x k)), some (.int (nI k)), l7] [] (mh ad A I) := by
  intro n
  induction n with
  | zero => intro k l7 h1 h2; omega
  | succ n ih =>
    intro k l7 h1 h2
    have h4 := hm.2.2.1
    have h10 := hm.2.2.2
    have ht := nk_tp_le h10
    have ht2 := nk_tp_2 b
    have hb2 := nk_2b h10
    have hl2 := nk_2l h10
    have hh2 := nk_2h h10
    refine nk_iload dX8_clusterOf_18 rfl ?_
    refine nk_iconst (v := 1) dX8_clusterOf_20 (by decide) ?_
    refine nk_iload_n (i := 3) dX8_clusterOf_21 rfl rfl ?_
    refine nk_ishl dX8_clusterOf_22 ?_
    refine nk_top (y := nI (2 ^ (b / 2))) (nk_sh1 (by omega)) ?_
    refine nk_icmpge (tgt := 71) dX8_clusterOf_23 (by decide) (fun h23 => ?_) (fun h23 => ?_)
    · skip
      refine nk_iload dX8_clusterOf_71 rfl ?_
      refine nk_ireturn dX8_clusterOf_73 rfl ?_
      have e2 : k = 2 ^ (b / 2) := Nat.le_antisymm h1 (nk_leI h23 (by omega) (by omega))
      subst e2
      exact ⟨rfl, rfl⟩
    · skip
      have hk := nk_nleI (a := 2 ^ (b / 2)) h23 (by omega) (by omega)
      have hkey := nk_hl hx hk
      refine nk_iload_n (i := 2) dX8_clusterOf_26 rfl rfl ?_
      refine nk_iload_n (i := 3) dX8_clusterOf_27 rfl rfl ?_
      refine nk_ishl dX8_clusterOf_28 ?_
      refine nk_iload dX8_clusterOf_29 rfl ?_
      refine nk_iadd dX8_clusterOf_31 ?_
      refine nk_top (y := nI (x * 2 ^ (b / 2) + k)) (by rw [nk_shN (by omega) (by omega), nI_add]) ?_
      refine nk_istoreT dX8_clusterOf_32 (by decide) ?_
      refine nk_iload dX8_clusterOf_34 rfl ?_
      refine nk_aload_n (i := 0) dX8_clusterOf_36 rfl rfl ?_
      refine nk_iconst (v := 0) dX8_clusterOf_37 (by decide) ?_
      refine nk_iload_n (i := 1) dX8_clusterOf_38 rfl rfl ?_
      refine nk_iload dX8_clusterOf_39 rfl ?_
      refine nk_cVi kX8_137 (s_X8_hasKey hi (base := 0) (s := j) (k := x * 2 ^ (b / 2) + k) (by omega) (by omega)) dX8_clusterOf_41 mh_0 rfl rfl (by decide) (Nat.le_of_ble_eq_true rfl) ?_
      refine nk_ifeq (tgt := 61) dX8_clusterOf_44 (by decide) (fun h44 => ?_) (fun h44 => ?_)
      · skip
        simp only [nk_b0, Classical.not_not] at h44
        refine nk_iconst (v := 0) dX8_clusterOf_61 (by decide) ?_
        refine nk_ior dX8_clusterOf_62 ?_
        refine nk_istoreT dX8_clusterOf_63 (by decide) ?_
        refine nk_iincT dX8_clusterOf_65 rfl (nk_i1 k) (by decide) ?_
        refine nk_goto (tgt := 18) dX8_clusterOf_68 (by decide) ?_
        refine (ih (k + 1) (some (.int (nI (x * 2 ^ (b / 2) + k)))) (by omega) (by omega)).to ?_ rfl rfl
        first
        | (have c : ¬ (nk_mem (A 0) 0 j (x * 2 ^ (b / 2) + k) = true ∧ ¬ nk_up (nk_mem (A 0) 0 j) 0 (nk_tp b) = some (x * 2 ^ (b / 2) + k)) := fun z => absurd z.1 h44
           rw [sp_cl, if_neg c]; rfl)
        | (have c : ¬ (nk_mem (A 0) 0 j (x * 2 ^ (b / 2) + k) = true ∧ ¬ nk_up (nk_mem (A 0) 0 j) 0 (nk_tp b) = some (x * 2 ^ (b / 2) + k)) := fun z => z.2 h51
           rw [sp_cl, if_neg c]; rfl)
        | (have c : nk_mem (A 0) 0 j (x * 2 ^ (b / 2) + k) = true ∧ ¬ nk_up (nk_mem (A 0) 0 j) 0 (nk_tp b) = some (x * 2 ^ (b / 2) + k) := ⟨h44, h51⟩
           rw [sp_cl, if_pos c]; rfl)
      · skip
        simp only [nk_b0, Classical.not_not] at h44
        refine nk_iload dX8_clusterOf_47 rfl ?_
        refine nk_iload dX8_clusterOf_49 rfl ?_
        refine nk_icmpeq (tgt := 61) dX8_clusterOf_51 (by decide) (fun h51 => ?_) (fun h51 => ?_)
        · skip
          rw [nk_rN_some (nk_up_b (by omega)) (by omega)] at h51
          refine nk_iconst (v := 0) dX8_clusterOf_61 (by decide) ?_
          refine nk_ior dX8_clusterOf_62 ?_
          refine nk_istoreT dX8_clusterOf_63 (by decide) ?_
          refine nk_iincT dX8_clusterOf_65 rfl (nk_i1 k) (by decide) ?_
          refine nk_goto (tgt := 18) dX8_clusterOf_68 (by decide) ?_
          refine (ih (k + 1) (some (.int (nI (x * 2 ^ (b / 2) + k)))) (by omega) (by omega)).to ?_ rfl rfl
          first
          | (have c : ¬ (nk_mem (A 0) 0 j (x * 2 ^ (b / 2) + k) = true ∧ ¬ nk_up (nk_mem (A 0) 0 j) 0 (nk_tp b) = some (x * 2 ^ (b / 2) + k)) := fun z => absurd z.1 h44
             rw [sp_cl, if_neg c]; rfl)
          | (have c : ¬ (nk_mem (A 0) 0 j (x * 2 ^ (b / 2) + k) = true ∧ ¬ nk_up (nk_mem (A 0) 0 j) 0 (nk_tp b) = some (x * 2 ^ (b / 2) + k)) := fun z => z.2 h51
             rw [sp_cl, if_neg c]; rfl)
          | (have c : nk_mem (A 0) 0 j (x * 2 ^ (b / 2) + k) = true ∧ ¬ nk_up (nk_mem (A 0) 0 j) 0 (nk_tp b) = some (x * 2 ^ (b / 2) + k) := ⟨h44, h51⟩
             rw [sp_cl, if_pos c]; rfl)
        · skip
          rw [nk_rN_some (nk_up_b (by omega)) (by omega)] at h51
          refine nk_iconst (v := 1) dX8_clusterOf_54 (by decide) ?_
          refine nk_iload dX8_clusterOf_55 rfl ?_
          refine nk_ishl dX8_clusterOf_57 ?_
          refine nk_goto (tgt := 62) dX8_clusterOf_58 (by decide) ?_
          refine nk_ior dX8_clusterOf_62 ?_
          refine nk_istoreT dX8_clusterOf_63 (by decide) ?_
          refine nk_iincT dX8_clusterOf_65 rfl (nk_i1 k) (by decide) ?_
          refine nk_goto (tgt := 18) dX8_clusterOf_68 (by decide) ?_
          refine (ih (k + 1) (some (.int (nI (x * 2 ^ (b / 2) + k)))) (by omega) (by omega)).to ?_ rfl rfl
          first
          | (have c : ¬ (nk_mem (A 0) 0 j (x * 2 ^ (b / 2) + k) = true ∧ ¬ nk_up (nk_mem (A 0) 0 j) 0 (nk_tp b) = some (x * 2 ^ (b / 2) + k)) := fun z => absurd z.1 h44
             rw [sp_cl, if_neg c]; rfl)
          | (have c : ¬ (nk_mem (A 0) 0 j (x * 2 ^ (b / 2) + k) = true ∧ ¬ nk_up (nk_mem (A 0) 0 j) 0 (nk_tp b) = some (x * 2 ^ (b / 2) + k)) := fun z => z.2 h51
             rw [sp_cl, if_neg c]; rfl)
          | (have c : nk_mem (A 0) 0 j (x * 2 ^ (b / 2) + k) = true ∧ ¬ nk_up (nk_mem (A 0) 0 j) 0 (nk_tp b) = some (x * 2 ^ (b / 2) + k) := ⟨h44, h51⟩
             rw [sp_cl, if_pos c]; rfl)
set_option maxRecDepth 20000 in
theorem s_X8_clusterOf {G : nk_EG} {ad : Nat → Nat} {A : Nat → Nat → Int32} {I : Nat → Int32} (hi : mInj ad) {m b : Nat} (hm : mSh (A 0) 0 m b) {j x : Nat} (hj : j < 4) (hx : x < 2 ^ (b - b / 2)) : nk_Si G mX8_clusterOf 5 [.ref (ad 0), .int (nI j), .int (nI x)] (mh ad A I) (sp_c (nk_mem (A 0) 0 j) b x) (mh ad A I) := by
  have h4 := hm.2.2.1
  have h10 := hm.2.2.2
  have ht := nk_tp_le h10
  have ht2 := nk_tp_2 b
  have hb2 := nk_2b h10
  have hl2 := nk_2l h10
  have hh2 := nk_2h h10
  refine nk_S.of (by decide +kernel) (Nat.le_of_ble_eq_true rfl) rfl ?_
  refine nk_aload_n (i := 0) dX8_clusterOf_0 rfl rfl ?_
  refine nk_cVi kX8_226 (s_X8_lowBits hi hm) dX8_clusterOf_1 mh_0 rfl rfl (by decide) (Nat.le_of_ble_eq_true rfl) ?_
  refine nk_istore_nT (i := 3) dX8_clusterOf_4 rfl (by decide) ?_
  refine nk_aload_n (i := 0) dX8_clusterOf_5 rfl rfl ?_
  refine nk_iload_n (i := 1) dX8_clusterOf_6 rfl rfl ?_
  refine nk_cVi kX8_147 (s_X8_leastOf hi hm hj) dX8_clusterOf_7 mh_0 rfl rfl (by decide) (Nat.le_of_ble_eq_true rfl) ?_
  refine nk_istoreT dX8_clusterOf_10 (by decide) ?_
  refine nk_iconst (v := 0) dX8_clusterOf_12 (by decide) ?_
  refine nk_istoreT dX8_clusterOf_13 (by decide) ?_
  refine nk_iconst (v := 0) dX8_clusterOf_15 (by decide) ?_
  refine nk_istoreT dX8_clusterOf_16 (by decide) ?_
  exact l_X8_clusterOf hi hm hj hx (2 ^ (b / 2) + 1) 0 none (Nat.zero_le _) (by omega)
set_option maxRecDepth 20000 in
theorem l_X8_summaryOf {G : nk_EG} {ad : Nat → Nat} {A : Nat → Nat → Int32} {I : Nat → Int32} (hi : mInj ad) {m b : Nat} (hm : mSh (A 0) 0 m b) {j : Nat} (hj : j < 4) : ∀ (n : Nat) (k : Nat) (h1 : k ≤ 2 ^ (b - b / 2)) (h2 : 2 ^ (b - b / 2) < k + n), nk_J G mX8_summaryOf 6 (nk_ri (sp_s (nk_mem (A 0) 0 j) b) (mh ad A I)) 0 0 4 [some (.ref (ad 0)), some (.int (nI j)), some (.int (sp_sm (nk_mem (A 0) 0 j) b k)), some (.int (nI k))] [] (mh ad A I) := by
  intro n
  induction n with
  | zero => intro k h1 h2; omega
  | succ n ih =>
    intro k h1 h2
    have h4 := hm.2.2.1
    have h10 := hm.2.2.2
    have ht := nk_tp_le h10
    have ht2 := nk_tp_2 b
    have hb2 := nk_2b h10
    have hl2 := nk_2l h10
    have hh2 := nk_2h h10
    refine nk_iload_n (i := 3) dX8_summaryOf_4 rfl rfl ?_
    refine nk_iconst (v := 1) dX8_summaryOf_5 (by decide) ?_
    refine nk_aload_n (i := 0) dX8_summaryOf_6 rfl rfl ?_
    refine nk_cVi kX8_229 (s_X8_highBits hi hm) dX8_summaryOf_7 mh_0 rfl rfl (by decide) (Nat.le_of_ble_eq_true rfl) ?_
    refine nk_ishl dX8_summaryOf_10 ?_
    refine nk_top (y := nI (2 ^ (b - b / 2))) (nk_sh1 (by omega)) ?_
    refine nk_icmpge (tgt := 39) dX8_summaryOf_11 (by decide) (fun h11 => ?_) (fun h11 => ?_)
    · skip
      refine nk_iload_n (i := 2) dX8_summaryOf_39 rfl rfl ?_
      refine nk_ireturn dX8_summaryOf_40 rfl ?_
      have e2 : k = 2 ^ (b - b / 2) := Nat.le_antisymm h1 (nk_leI h11 (by omega) (by omega))
      subst e2
      exact ⟨rfl, rfl⟩
    · skip
      have hk := nk_nleI (a := 2 ^ (b - b / 2)) h11 (by omega) (by omega)
      refine nk_iload_n (i := 2) dX8_summaryOf_14 rfl rfl ?_
      refine nk_aload_n (i := 0) dX8_summaryOf_15 rfl rfl ?_
      refine nk_iload_n (i := 1) dX8_summaryOf_16 rfl rfl ?_
      refine nk_iload_n (i := 3) dX8_summaryOf_17 rfl rfl ?_
      refine nk_cVi kX8_232 (s_X8_clusterOf hi hm hj hk) dX8_summaryOf_18 mh_0 rfl rfl (by decide) (Nat.le_of_ble_eq_true rfl) ?_
      refine nk_ifne (tgt := 28) dX8_summaryOf_21 (by decide) (fun h21 => ?_) (fun h21 => ?_)
      · skip
        refine nk_iconst (v := 1) dX8_summaryOf_28 (by decide) ?_
        refine nk_iload_n (i := 3) dX8_summaryOf_29 rfl rfl ?_
        refine nk_ishl dX8_summaryOf_30 ?_
        refine nk_ior dX8_summaryOf_31 ?_
        refine nk_istore_nT (i := 2) dX8_summaryOf_32 rfl (by decide) ?_
        refine nk_iincT dX8_summaryOf_33 rfl (nk_i1 k) (by decide) ?_
        refine nk_goto (tgt := 4) dX8_summaryOf_36 (by decide) ?_
        refine (ih (k + 1) (by omega) (by omega)).to ?_ rfl rfl
        first
        | (rw [sp_sm, if_pos h21]; rfl)
        | (rw [sp_sm, if_neg h21]; rfl)
      · skip
        refine nk_iconst (v := 0) dX8_summaryOf_24 (by decide) ?_
        refine nk_goto (tgt := 31) dX8_summaryOf_25 (by decide) ?_
        refine nk_ior dX8_summaryOf_31 ?_
        refine nk_istore_nT (i := 2) dX8_summaryOf_32 rfl (by decide) ?_
        refine nk_iincT dX8_summaryOf_33 rfl (nk_i1 k) (by decide) ?_
        refine nk_goto (tgt := 4) dX8_summaryOf_36 (by decide) ?_
        refine (ih (k + 1) (by omega) (by omega)).to ?_ rfl rfl
        first
        | (rw [sp_sm, if_pos h21]; rfl)
        | (rw [sp_sm, if_neg h21]; rfl)
set_option maxRecDepth 20000 in
theorem s_X8_summaryOf {G : nk_EG} {ad : Nat → Nat} {A : Nat → Nat → Int32} {I : Nat → Int32} (hi : mInj ad) {m b : Nat} (hm : mSh (A 0) 0 m b) {j : Nat} (hj : j < 4) : nk_Si G mX8_summaryOf 6 [.ref (ad 0), .int (nI j)] (mh ad A I) (sp_s (nk_mem (A 0) 0 j) b) (mh ad A I) := by
  have h4 := hm.2.2.1
  have h10 := hm.2.2.2
  have ht := nk_tp_le h10
  have ht2 := nk_tp_2 b
  have hb2 := nk_2b h10
  have hl2 := nk_2l h10
  have hh2 := nk_2h h10
  refine nk_S.of (by decide +kernel) (Nat.le_of_ble_eq_true rfl) rfl ?_
  refine nk_iconst (v := 0) dX8_summaryOf_0 (by decide) ?_
  refine nk_istore_nT (i := 2) dX8_summaryOf_1 rfl (by decide) ?_
  refine nk_iconst (v := 0) dX8_summaryOf_2 (by decide) ?_
  refine nk_istore_nT (i := 3) dX8_summaryOf_3 rfl (by decide) ?_
  exact l_X8_summaryOf hi hm hj (2 ^ (b - b / 2) + 1) 0 (Nat.zero_le _) (by omega)
set_option maxRecDepth 20000 in
theorem l_X8_nodesIn {G : nk_EG} {ad : Nat → Nat} {A : Nat → Nat → Int32} {I : Nat → Int32} (hi : mInj ad) {m b : Nat} (hm : mSh (A 0) 0 m b) {j : Nat} (hj : j < 4) (hne : ¬ fb_ct (nk_mem (A 0) 0 j) 1024 = 0) : ∀ (n : Nat) (k : Nat) (h1 : k ≤ 2 ^ (b - b / 2)) (h2 : 2 ^ (b - b / 2) < k + n), nk_J G mX8_nodesIn 7 (nk_ri (sp_nodes (nk_mem (A 0) 0 j) b) (mh ad A I)) 0 0 28 [some (.ref (ad 0)), some (.int (nI j)), some (.int (pf_acc (1 + pf_nd (sp_s (nk_mem (A 0) 0 j) b) (nI (b - b / 2))) (fun x => pf_nd (sp_c (nk_mem (A 0) 0 j) b x) (nI (b / 2))) k)), some (.int (nI k))] [] (mh ad A I) := by
  intro n
  induction n with
  | zero => intro k h1 h2; omega
  | succ n ih =>
    intro k h1 h2
    have h4 := hm.2.2.1
    have h10 := hm.2.2.2
    have ht := nk_tp_le h10
    have ht2 := nk_tp_2 b
    have hb2 := nk_2b h10
    have hl2 := nk_2l h10
    have hh2 := nk_2h h10
    refine nk_iload_n (i := 3) dX8_nodesIn_28 rfl rfl ?_
    refine nk_iconst (v := 1) dX8_nodesIn_29 (by decide) ?_
    refine nk_aload_n (i := 0) dX8_nodesIn_30 rfl rfl ?_
    refine nk_cVi kX8_229 (s_X8_highBits hi hm) dX8_nodesIn_31 mh_0 rfl rfl (by decide) (Nat.le_of_ble_eq_true rfl) ?_
    refine nk_ishl dX8_nodesIn_34 ?_
    refine nk_top (y := nI (2 ^ (b - b / 2))) (nk_sh1 (by omega)) ?_
    refine nk_icmpge (tgt := 60) dX8_nodesIn_35 (by decide) (fun h35 => ?_) (fun h35 => ?_)
    · skip
      have e2 : k = 2 ^ (b - b / 2) := Nat.le_antisymm h1 (nk_leI h35 (by omega) (by omega))
      subst e2
      refine nk_iload_n (i := 2) dX8_nodesIn_60 rfl rfl ?_
      refine nk_ireturn dX8_nodesIn_61 rfl ?_
      exact ⟨by unfold sp_nodes; rw [if_neg hne], rfl⟩
    · skip
      have hk := nk_nleI (a := 2 ^ (b - b / 2)) h35 (by omega) (by omega)
      refine nk_iload_n (i := 2) dX8_nodesIn_38 rfl rfl ?_
      refine nk_aload_n (i := 0) dX8_nodesIn_39 rfl rfl ?_
      refine nk_iload_n (i := 1) dX8_nodesIn_40 rfl rfl ?_
      refine nk_iload_n (i := 3) dX8_nodesIn_41 rfl rfl ?_
      refine nk_cVi kX8_232 (s_X8_clusterOf hi hm hj hk) dX8_nodesIn_42 mh_0 rfl rfl (by decide) (Nat.le_of_ble_eq_true rfl) ?_
      refine nk_aload_n (i := 0) dX8_nodesIn_45 rfl rfl ?_
      refine nk_cVi kX8_226 (s_X8_lowBits hi hm) dX8_nodesIn_46 mh_0 rfl rfl (by decide) (Nat.le_of_ble_eq_true rfl) ?_
      refine nk_cSi kX8_238 (s_X8_nodesOf) dX8_nodesIn_49 rfl rfl (by decide) (Nat.le_of_ble_eq_true rfl) ?_
      refine nk_iadd dX8_nodesIn_52 ?_
      refine nk_istore_nT (i := 2) dX8_nodesIn_53 rfl (by decide) ?_
      refine nk_iincT dX8_nodesIn_54 rfl (nk_i1 k) (by decide) ?_
      refine nk_goto (tgt := 28) dX8_nodesIn_57 (by decide) ?_
      exact ih (k + 1) (by omega) (by omega)
set_option maxRecDepth 20000 in
theorem s_X8_nodesIn {G : nk_EG} {ad : Nat → Nat} {A : Nat → Nat → Int32} {I : Nat → Int32} (hi : mInj ad) {m b : Nat} (hm : mSh (A 0) 0 m b) {j : Nat} (hj : j < 4) : nk_Si G mX8_nodesIn 7 [.ref (ad 0), .int (nI j)] (mh ad A I) (sp_nodes (nk_mem (A 0) 0 j) b) (mh ad A I) := by
  have h4 := hm.2.2.1
  have h10 := hm.2.2.2
  have ht := nk_tp_le h10
  have ht2 := nk_tp_2 b
  have hb2 := nk_2b h10
  have hl2 := nk_2l h10
  have hh2 := nk_2h h10
  refine nk_S.of (by decide +kernel) (Nat.le_of_ble_eq_true rfl) rfl ?_
  refine nk_aload_n (i := 0) dX8_nodesIn_0 rfl rfl ?_
  refine nk_iconst (v := 0) dX8_nodesIn_1 (by decide) ?_
  refine nk_iload_n (i := 1) dX8_nodesIn_2 rfl rfl ?_
  refine nk_cVi kX8_168 (s_X8_keysOf hi (base := 0) (s := j) (by omega)) dX8_nodesIn_3 mh_0 rfl rfl (by decide) (Nat.le_of_ble_eq_true rfl) ?_
  refine nk_ifne (tgt := 11) dX8_nodesIn_6 (by decide) (fun h6 => ?_) (fun h6 => ?_)
  · skip
    rw [nk_ct0] at h6
    refine nk_iconst (v := 1) dX8_nodesIn_11 (by decide) ?_
    refine nk_aload_n (i := 0) dX8_nodesIn_12 rfl rfl ?_
    refine nk_iload_n (i := 1) dX8_nodesIn_13 rfl rfl ?_
    refine nk_cVi kX8_235 (s_X8_summaryOf hi hm hj) dX8_nodesIn_14 mh_0 rfl rfl (by decide) (Nat.le_of_ble_eq_true rfl) ?_
    refine nk_aload_n (i := 0) dX8_nodesIn_17 rfl rfl ?_
    refine nk_cVi kX8_229 (s_X8_highBits hi hm) dX8_nodesIn_18 mh_0 rfl rfl (by decide) (Nat.le_of_ble_eq_true rfl) ?_
    refine nk_cSi kX8_238 (s_X8_nodesOf) dX8_nodesIn_21 rfl rfl (by decide) (Nat.le_of_ble_eq_true rfl) ?_
    refine nk_iadd dX8_nodesIn_24 ?_
    refine nk_istore_nT (i := 2) dX8_nodesIn_25 rfl (by decide) ?_
    refine nk_iconst (v := 0) dX8_nodesIn_26 (by decide) ?_
    refine nk_istore_nT (i := 3) dX8_nodesIn_27 rfl (by decide) ?_
    exact l_X8_nodesIn hi hm hj h6 (2 ^ (b - b / 2) + 1) 0 (Nat.zero_le _) (by omega)
  · skip
    rw [nk_ct0] at h6
    refine nk_iconst (v := 0) dX8_nodesIn_9 (by decide) ?_
    refine nk_ireturn dX8_nodesIn_10 rfl ?_
    exact ⟨by unfold sp_nodes; rw [if_pos h6], rfl⟩
set_option maxRecDepth 20000 in
theorem l_X8_depthIn {G : nk_EG} {ad : Nat → Nat} {A : Nat → Nat → Int32} {I : Nat → Int32} (hi : mInj ad) {m b : Nat} (hm : mSh (A 0) 0 m b) {j : Nat} (hj : j < 4) (hne : ¬ fb_ct (nk_mem (A 0) 0 j) 1024 = 0) : ∀ (n : Nat) (k : Nat) (h1 : k ≤ 2 ^ (b - b / 2)) (h2 : 2 ^ (b - b / 2) < k + n), nk_J G mX8_depthIn 7 (nk_ri (sp_depth (nk_mem (A 0) 0 j) b) (mh ad A I)) 0 0 26 [some (.ref (ad 0)), some (.int (nI j)), some (.int (pf_mxa (pf_dp (sp_s (nk_mem (A 0) 0 j) b) (nI (b - b / 2))) (fun x => pf_dp (sp_c (nk_mem (A 0) 0 j) b x) (nI (b / 2))) k)), some (.int (nI k))] [] (mh ad A I) := by
  intro n
  induction n with
  | zero => intro k h1 h2; omega
  | succ n ih =>
    intro k h1 h2
    have h4 := hm.2.2.1
    have h10 := hm.2.2.2
    have ht := nk_tp_le h10
    have ht2 := nk_tp_2 b
    have hb2 := nk_2b h10
    have hl2 := nk_2l h10
    have hh2 := nk_2h h10
    refine nk_iload_n (i := 3) dX8_depthIn_26 rfl rfl ?_
    refine nk_iconst (v := 1) dX8_depthIn_27 (by decide) ?_
    refine nk_aload_n (i := 0) dX8_depthIn_28 rfl rfl ?_
    refine nk_cVi kX8_229 (s_X8_highBits hi hm) dX8_depthIn_29 mh_0 rfl rfl (by decide) (Nat.le_of_ble_eq_true rfl) ?_
    refine nk_ishl dX8_depthIn_32 ?_
    refine nk_top (y := nI (2 ^ (b - b / 2))) (nk_sh1 (by omega)) ?_
    refine nk_icmpge (tgt := 60) dX8_depthIn_33 (by decide) (fun h33 => ?_) (fun h33 => ?_)
    · skip
      have e2 : k = 2 ^ (b - b / 2) := Nat.le_antisymm h1 (nk_leI h33 (by omega) (by omega))
      subst e2
      refine nk_iconst (v := 1) dX8_depthIn_60 (by decide) ?_
      refine nk_iload_n (i := 2) dX8_depthIn_61 rfl rfl ?_
      refine nk_iadd dX8_depthIn_62 ?_
      refine nk_ireturn dX8_depthIn_63 rfl ?_
      exact ⟨by unfold sp_depth; rw [if_neg hne], rfl⟩
    · skip
      have hk := nk_nleI (a := 2 ^ (b - b / 2)) h33 (by omega) (by omega)
      refine nk_iload_n (i := 2) dX8_depthIn_36 rfl rfl ?_
      refine nk_aload_n (i := 0) dX8_depthIn_37 rfl rfl ?_
      refine nk_iload_n (i := 1) dX8_depthIn_38 rfl rfl ?_
      refine nk_iload_n (i := 3) dX8_depthIn_39 rfl rfl ?_
      refine nk_cVi kX8_232 (s_X8_clusterOf hi hm hj hk) dX8_depthIn_40 mh_0 rfl rfl (by decide) (Nat.le_of_ble_eq_true rfl) ?_
      refine nk_aload_n (i := 0) dX8_depthIn_43 rfl rfl ?_
      refine nk_cVi kX8_226 (s_X8_lowBits hi hm) dX8_depthIn_44 mh_0 rfl rfl (by decide) (Nat.le_of_ble_eq_true rfl) ?_
      refine nk_cSi kX8_241 (s_X8_deepOf) dX8_depthIn_47 rfl rfl (by decide) (Nat.le_of_ble_eq_true rfl) ?_
      refine nk_cSi kX8_214 (s_X8_more) dX8_depthIn_50 rfl rfl (by decide) (Nat.le_of_ble_eq_true rfl) ?_
      refine nk_istore_nT (i := 2) dX8_depthIn_53 rfl (by decide) ?_
      refine nk_iincT dX8_depthIn_54 rfl (nk_i1 k) (by decide) ?_
      refine nk_goto (tgt := 26) dX8_depthIn_57 (by decide) ?_
      exact ih (k + 1) (by omega) (by omega)
set_option maxRecDepth 20000 in
theorem s_X8_depthIn {G : nk_EG} {ad : Nat → Nat} {A : Nat → Nat → Int32} {I : Nat → Int32} (hi : mInj ad) {m b : Nat} (hm : mSh (A 0) 0 m b) {j : Nat} (hj : j < 4) : nk_Si G mX8_depthIn 7 [.ref (ad 0), .int (nI j)] (mh ad A I) (sp_depth (nk_mem (A 0) 0 j) b) (mh ad A I) := by
  have h4 := hm.2.2.1
  have h10 := hm.2.2.2
  have ht := nk_tp_le h10
  have ht2 := nk_tp_2 b
  have hb2 := nk_2b h10
  have hl2 := nk_2l h10
  have hh2 := nk_2h h10
  refine nk_S.of (by decide +kernel) (Nat.le_of_ble_eq_true rfl) rfl ?_
  refine nk_aload_n (i := 0) dX8_depthIn_0 rfl rfl ?_
  refine nk_iconst (v := 0) dX8_depthIn_1 (by decide) ?_
  refine nk_iload_n (i := 1) dX8_depthIn_2 rfl rfl ?_
  refine nk_cVi kX8_168 (s_X8_keysOf hi (base := 0) (s := j) (by omega)) dX8_depthIn_3 mh_0 rfl rfl (by decide) (Nat.le_of_ble_eq_true rfl) ?_
  refine nk_ifne (tgt := 11) dX8_depthIn_6 (by decide) (fun h6 => ?_) (fun h6 => ?_)
  · skip
    rw [nk_ct0] at h6
    refine nk_aload_n (i := 0) dX8_depthIn_11 rfl rfl ?_
    refine nk_iload_n (i := 1) dX8_depthIn_12 rfl rfl ?_
    refine nk_cVi kX8_235 (s_X8_summaryOf hi hm hj) dX8_depthIn_13 mh_0 rfl rfl (by decide) (Nat.le_of_ble_eq_true rfl) ?_
    refine nk_aload_n (i := 0) dX8_depthIn_16 rfl rfl ?_
    refine nk_cVi kX8_229 (s_X8_highBits hi hm) dX8_depthIn_17 mh_0 rfl rfl (by decide) (Nat.le_of_ble_eq_true rfl) ?_
    refine nk_cSi kX8_241 (s_X8_deepOf) dX8_depthIn_20 rfl rfl (by decide) (Nat.le_of_ble_eq_true rfl) ?_
    refine nk_istore_nT (i := 2) dX8_depthIn_23 rfl (by decide) ?_
    refine nk_iconst (v := 0) dX8_depthIn_24 (by decide) ?_
    refine nk_istore_nT (i := 3) dX8_depthIn_25 rfl (by decide) ?_
    exact l_X8_depthIn hi hm hj h6 (2 ^ (b - b / 2) + 1) 0 (Nat.zero_le _) (by omega)
  · skip
    rw [nk_ct0] at h6
    refine nk_iconst (v := 0) dX8_depthIn_9 (by decide) ?_
    refine nk_ireturn dX8_depthIn_10 rfl ?_
    exact ⟨by unfold sp_depth; rw [if_pos h6], rfl⟩
set_option maxRecDepth 20000 in
theorem s_X8_tree {G : nk_EG} {ad : Nat → Nat} {A : Nat → Nat → Int32} {I : Nat → Int32} (hi : mInj ad) {m b : Nat} (hm : mSh (A 0) 0 m b) {s x : Int32} : nk_Si G mX8_tree 8 [.ref (ad 0), .int s, .int x] (mh ad A I) (sp_tree m b (nk_mem (A 0) 0) s x) (mh ad A I) := by
  have h4 := hm.2.2.1
  have h10 := hm.2.2.2
  have ht := nk_tp_le h10
  refine nk_S.of (by decide +kernel) (Nat.le_of_ble_eq_true rfl) rfl ?_
  refine nk_aload_n (i := 0) dX8_tree_0 rfl rfl ?_
  refine nk_iload_n (i := 1) dX8_tree_1 rfl rfl ?_
  refine nk_cVi kX8_154 (s_X8_isSet hi hm.1 hm.2.2.1) dX8_tree_2 mh_0 rfl rfl (by decide) (Nat.le_of_ble_eq_true rfl) ?_
  refine nk_ifeq (tgt := 18) dX8_tree_5 (by decide) (fun h5 => ?_) (fun h5 => ?_)
  · skip
    try simp only [nk_b0, Int32.toInt_toInt64, Classical.not_not, nk_l0, nk_l1, nk_l2, nk_l60] at h5
    refine nk_ldc qX8_49 dX8_tree_18 ?_
    refine nk_goto (tgt := 40) dX8_tree_20 (by decide) ?_
    refine nk_ireturn dX8_tree_40 rfl ?_
    first
    | exact ⟨by unfold sp_tree; rw [if_neg h5], rfl⟩
    | exact ⟨by unfold sp_tree; rw [if_pos h5, if_neg h15], rfl⟩
    | exact ⟨by unfold sp_tree; rw [if_pos h5, if_pos h15, sp_n_nI (by omega), if_pos h24], rfl⟩
    | exact ⟨by unfold sp_tree; rw [if_pos h5, if_pos h15, sp_n_nI (by omega), if_neg h24], rfl⟩
  · skip
    try simp only [nk_b0, Int32.toInt_toInt64, Classical.not_not, nk_l0, nk_l1, nk_l2, nk_l60] at h5
    refine nk_iload_n (i := 2) dX8_tree_8 rfl rfl ?_
    refine nk_i2l dX8_tree_9 ?_
    refine nk_lconst (v := 0) dX8_tree_10 rfl ?_
    refine nk_lconst (v := 1) dX8_tree_11 rfl ?_
    refine nk_cSi kX8_39 (s_X8_in) dX8_tree_12 rfl rfl (by decide) (Nat.le_of_ble_eq_true rfl) ?_
    refine nk_ifne (tgt := 23) dX8_tree_15 (by decide) (fun h15 => ?_) (fun h15 => ?_)
    · skip
      try simp only [nk_b0, Int32.toInt_toInt64, Classical.not_not, nk_l0, nk_l1, nk_l2, nk_l60] at h15
      obtain ⟨j, hj, rfl⟩ := nk_getN h5
      refine nk_iload_n (i := 2) dX8_tree_23 rfl rfl ?_
      refine nk_ifne (tgt := 35) dX8_tree_24 (by decide) (fun h24 => ?_) (fun h24 => ?_)
      · skip
        try simp only [nk_b0, Int32.toInt_toInt64, Classical.not_not, nk_l0, nk_l1, nk_l2, nk_l60] at h24
        refine nk_aload_n (i := 0) dX8_tree_35 rfl rfl ?_
        refine nk_iload_n (i := 1) dX8_tree_36 rfl rfl ?_
        refine nk_cVi kX8_256 (s_X8_depthIn hi hm (by omega)) dX8_tree_37 mh_0 rfl rfl (by decide) (Nat.le_of_ble_eq_true rfl) ?_
        refine nk_ireturn dX8_tree_40 rfl ?_
        first
        | exact ⟨by unfold sp_tree; rw [if_neg h5], rfl⟩
        | exact ⟨by unfold sp_tree; rw [if_pos h5, if_neg h15], rfl⟩
        | exact ⟨by unfold sp_tree; rw [if_pos h5, if_pos h15, sp_n_nI (by omega), if_pos h24], rfl⟩
        | exact ⟨by unfold sp_tree; rw [if_pos h5, if_pos h15, sp_n_nI (by omega), if_neg h24], rfl⟩
      · skip
        try simp only [nk_b0, Int32.toInt_toInt64, Classical.not_not, nk_l0, nk_l1, nk_l2, nk_l60] at h24
        refine nk_aload_n (i := 0) dX8_tree_27 rfl rfl ?_
        refine nk_iload_n (i := 1) dX8_tree_28 rfl rfl ?_
        refine nk_cVi kX8_253 (s_X8_nodesIn hi hm (by omega)) dX8_tree_29 mh_0 rfl rfl (by decide) (Nat.le_of_ble_eq_true rfl) ?_
        refine nk_goto (tgt := 40) dX8_tree_32 (by decide) ?_
        refine nk_ireturn dX8_tree_40 rfl ?_
        first
        | exact ⟨by unfold sp_tree; rw [if_neg h5], rfl⟩
        | exact ⟨by unfold sp_tree; rw [if_pos h5, if_neg h15], rfl⟩
        | exact ⟨by unfold sp_tree; rw [if_pos h5, if_pos h15, sp_n_nI (by omega), if_pos h24], rfl⟩
        | exact ⟨by unfold sp_tree; rw [if_pos h5, if_pos h15, sp_n_nI (by omega), if_neg h24], rfl⟩
    · skip
      try simp only [nk_b0, Int32.toInt_toInt64, Classical.not_not, nk_l0, nk_l1, nk_l2, nk_l60] at h15
      refine nk_ldc qX8_49 dX8_tree_18 ?_
      refine nk_goto (tgt := 40) dX8_tree_20 (by decide) ?_
      refine nk_ireturn dX8_tree_40 rfl ?_
      first
      | exact ⟨by unfold sp_tree; rw [if_neg h5], rfl⟩
      | exact ⟨by unfold sp_tree; rw [if_pos h5, if_neg h15], rfl⟩
      | exact ⟨by unfold sp_tree; rw [if_pos h5, if_pos h15, sp_n_nI (by omega), if_pos h24], rfl⟩
      | exact ⟨by unfold sp_tree; rw [if_pos h5, if_pos h15, sp_n_nI (by omega), if_neg h24], rfl⟩
set_option maxRecDepth 20000 in
theorem s_X8_summary {G : nk_EG} {ad : Nat → Nat} {A : Nat → Nat → Int32} {I : Nat → Int32} (hi : mInj ad) {m b : Nat} (hm : mSh (A 0) 0 m b) {s x : Int32} : nk_Si G mX8_summary 8 [.ref (ad 0), .int s, .int x] (mh ad A I) (sp_summary m b (nk_mem (A 0) 0) s x) (mh ad A I) := by
  have h4 := hm.2.2.1
  have h10 := hm.2.2.2
  have ht := nk_tp_le h10
  refine nk_S.of (by decide +kernel) (Nat.le_of_ble_eq_true rfl) rfl ?_
  refine nk_aload_n (i := 0) dX8_summary_0 rfl rfl ?_
  refine nk_iload_n (i := 1) dX8_summary_1 rfl rfl ?_
  refine nk_cVi kX8_154 (s_X8_isSet hi hm.1 hm.2.2.1) dX8_summary_2 mh_0 rfl rfl (by decide) (Nat.le_of_ble_eq_true rfl) ?_
  refine nk_ifeq (tgt := 20) dX8_summary_5 (by decide) (fun h5 => ?_) (fun h5 => ?_)
  · skip
    try simp only [nk_b0, Int32.toInt_toInt64, Classical.not_not, nk_l0, nk_l1, nk_l2, nk_l60] at h5
    refine nk_ldc qX8_49 dX8_summary_20 ?_
    refine nk_goto (tgt := 38) dX8_summary_22 (by decide) ?_
    refine nk_ireturn dX8_summary_38 rfl ?_
    first
    | exact ⟨by unfold sp_summary; rw [if_neg h5], rfl⟩
    | exact ⟨by unfold sp_summary; rw [if_pos h5, if_neg h17], rfl⟩
    | exact ⟨by unfold sp_summary; rw [if_pos h5, if_pos h17, sp_n_nI (by omega)], rfl⟩
  · skip
    try simp only [nk_b0, Int32.toInt_toInt64, Classical.not_not, nk_l0, nk_l1, nk_l2, nk_l60] at h5
    refine nk_iload_n (i := 2) dX8_summary_8 rfl rfl ?_
    refine nk_i2l dX8_summary_9 ?_
    refine nk_lconst (v := 0) dX8_summary_10 rfl ?_
    refine nk_ldc2 qX8_47 dX8_summary_11 ?_
    refine nk_cSi kX8_39 (s_X8_in) dX8_summary_14 rfl rfl (by decide) (Nat.le_of_ble_eq_true rfl) ?_
    refine nk_ifne (tgt := 25) dX8_summary_17 (by decide) (fun h17 => ?_) (fun h17 => ?_)
    · skip
      try simp only [nk_b0, Int32.toInt_toInt64, Classical.not_not, nk_l0, nk_l1, nk_l2, nk_l60] at h17
      obtain ⟨j, hj, rfl⟩ := nk_getN h5
      refine nk_aload_n (i := 0) dX8_summary_25 rfl rfl ?_
      refine nk_iload_n (i := 1) dX8_summary_26 rfl rfl ?_
      refine nk_cVi kX8_235 (s_X8_summaryOf hi hm (by omega)) dX8_summary_27 mh_0 rfl rfl (by decide) (Nat.le_of_ble_eq_true rfl) ?_
      refine nk_aload_n (i := 0) dX8_summary_30 rfl rfl ?_
      refine nk_cVi kX8_229 (s_X8_highBits hi hm) dX8_summary_31 mh_0 rfl rfl (by decide) (Nat.le_of_ble_eq_true rfl) ?_
      refine nk_iload_n (i := 2) dX8_summary_34 rfl rfl ?_
      refine nk_cSi kX8_259 (s_X8_nodeTells) dX8_summary_35 rfl rfl (by decide) (Nat.le_of_ble_eq_true rfl) ?_
      refine nk_ireturn dX8_summary_38 rfl ?_
      first
      | exact ⟨by unfold sp_summary; rw [if_neg h5], rfl⟩
      | exact ⟨by unfold sp_summary; rw [if_pos h5, if_neg h17], rfl⟩
      | exact ⟨by unfold sp_summary; rw [if_pos h5, if_pos h17, sp_n_nI (by omega)], rfl⟩
    · skip
      try simp only [nk_b0, Int32.toInt_toInt64, Classical.not_not, nk_l0, nk_l1, nk_l2, nk_l60] at h17
      refine nk_ldc qX8_49 dX8_summary_20 ?_
      refine nk_goto (tgt := 38) dX8_summary_22 (by decide) ?_
      refine nk_ireturn dX8_summary_38 rfl ?_
      first
      | exact ⟨by unfold sp_summary; rw [if_neg h5], rfl⟩
      | exact ⟨by unfold sp_summary; rw [if_pos h5, if_neg h17], rfl⟩
      | exact ⟨by unfold sp_summary; rw [if_pos h5, if_pos h17, sp_n_nI (by omega)], rfl⟩
set_option maxRecDepth 20000 in
theorem s_X8_cluster {G : nk_EG} {ad : Nat → Nat} {A : Nat → Nat → Int32} {I : Nat → Int32} (hi : mInj ad) {m b : Nat} (hm : mSh (A 0) 0 m b) {s x y : Int32} : nk_Si G mX8_cluster 8 [.ref (ad 0), .int s, .int x, .int y] (mh ad A I) (sp_cluster m b (nk_mem (A 0) 0) s x y) (mh ad A I) := by
  have h4 := hm.2.2.1
  have h10 := hm.2.2.2
  have ht := nk_tp_le h10
  have ht2 := nk_tp_2 b
  have hb2 := nk_2b h10
  have hl2 := nk_2l h10
  have hh2 := nk_2h h10
  refine nk_S.of (by decide +kernel) (Nat.le_of_ble_eq_true rfl) rfl ?_
  refine nk_aload_n (i := 0) dX8_cluster_0 rfl rfl ?_
  refine nk_iload_n (i := 1) dX8_cluster_1 rfl rfl ?_
  refine nk_cVi kX8_154 (s_X8_isSet hi hm.1 hm.2.2.1) dX8_cluster_2 mh_0 rfl rfl (by decide) (Nat.le_of_ble_eq_true rfl) ?_
  refine nk_ifeq (tgt := 38) dX8_cluster_5 (by decide) (fun h5 => ?_) (fun h5 => ?_)
  · skip
    try simp only [nk_b0, Int32.toInt_toInt64, Classical.not_not, nk_l0, nk_l1, nk_l2, nk_l60] at h5
    refine nk_ldc qX8_49 dX8_cluster_38 ?_
    refine nk_ireturn dX8_cluster_40 rfl ?_
    first
    | exact ⟨by unfold sp_cluster; rw [if_neg h5], rfl⟩
    | (have c23 : ¬ (0 ≤ x.toInt ∧ x.toInt < (2 ^ (b - b / 2) : Nat)) := fun z => h23 ⟨z.1, by omega⟩
       exact ⟨by unfold sp_cluster; rw [if_pos h5, if_neg c23], rfl⟩)
    | (have c23 : 0 ≤ x.toInt ∧ x.toInt < (2 ^ (b - b / 2) : Nat) := ⟨h23.1, by omega⟩
       exact ⟨by unfold sp_cluster; rw [if_pos h5, if_pos c23, if_neg h35], rfl⟩)
    | exact ⟨by unfold sp_cluster; rw [if_pos h5, if_pos h23, if_pos h35, sp_n_nI (by omega), sp_n_nI (by omega)], rfl⟩
  · skip
    try simp only [nk_b0, Int32.toInt_toInt64, Classical.not_not, nk_l0, nk_l1, nk_l2, nk_l60] at h5
    refine nk_iload_n (i := 2) dX8_cluster_8 rfl rfl ?_
    refine nk_i2l dX8_cluster_9 ?_
    refine nk_lconst (v := 0) dX8_cluster_10 rfl ?_
    refine nk_iconst (v := 1) dX8_cluster_11 (by decide) ?_
    refine nk_aload_n (i := 0) dX8_cluster_12 rfl rfl ?_
    refine nk_cVi kX8_229 (s_X8_highBits hi hm) dX8_cluster_13 mh_0 rfl rfl (by decide) (Nat.le_of_ble_eq_true rfl) ?_
    refine nk_ishl dX8_cluster_16 ?_
    refine nk_top (y := nI (2 ^ (b - b / 2))) (nk_sh1 (by omega)) ?_
    refine nk_iconst (v := 1) dX8_cluster_17 (by decide) ?_
    refine nk_isub dX8_cluster_18 ?_
    refine nk_i2l dX8_cluster_19 ?_
    refine nk_cSi kX8_39 (s_X8_in) dX8_cluster_20 rfl rfl (by decide) (Nat.le_of_ble_eq_true rfl) ?_
    refine nk_ifeq (tgt := 38) dX8_cluster_23 (by decide) (fun h23 => ?_) (fun h23 => ?_)
    · skip
      simp only [nk_b0, Int32.toInt_toInt64, Classical.not_not, nk_l0] at h23; rw [nk_m1 (by omega)] at h23
      refine nk_ldc qX8_49 dX8_cluster_38 ?_
      refine nk_ireturn dX8_cluster_40 rfl ?_
      first
      | exact ⟨by unfold sp_cluster; rw [if_neg h5], rfl⟩
      | (have c23 : ¬ (0 ≤ x.toInt ∧ x.toInt < (2 ^ (b - b / 2) : Nat)) := fun z => h23 ⟨z.1, by omega⟩
         exact ⟨by unfold sp_cluster; rw [if_pos h5, if_neg c23], rfl⟩)
      | (have c23 : 0 ≤ x.toInt ∧ x.toInt < (2 ^ (b - b / 2) : Nat) := ⟨h23.1, by omega⟩
         exact ⟨by unfold sp_cluster; rw [if_pos h5, if_pos c23, if_neg h35], rfl⟩)
      | exact ⟨by unfold sp_cluster; rw [if_pos h5, if_pos h23, if_pos h35, sp_n_nI (by omega), sp_n_nI (by omega)], rfl⟩
    · skip
      simp only [nk_b0, Int32.toInt_toInt64, Classical.not_not, nk_l0] at h23; rw [nk_m1 (by omega)] at h23
      refine nk_iload_n (i := 3) dX8_cluster_26 rfl rfl ?_
      refine nk_i2l dX8_cluster_27 ?_
      refine nk_lconst (v := 0) dX8_cluster_28 rfl ?_
      refine nk_ldc2 qX8_47 dX8_cluster_29 ?_
      refine nk_cSi kX8_39 (s_X8_in) dX8_cluster_32 rfl rfl (by decide) (Nat.le_of_ble_eq_true rfl) ?_
      refine nk_ifne (tgt := 41) dX8_cluster_35 (by decide) (fun h35 => ?_) (fun h35 => ?_)
      · skip
        try simp only [nk_b0, Int32.toInt_toInt64, Classical.not_not, nk_l0, nk_l1, nk_l2, nk_l60] at h35
        obtain ⟨j, hj, rfl⟩ := nk_getN h5
        have h23 : 0 ≤ x.toInt ∧ x.toInt < (2 ^ (b - b / 2) : Nat) := ⟨h23.1, by omega⟩
        obtain ⟨x, hx, rfl⟩ := nk_getN h23
        refine nk_aload_n (i := 0) dX8_cluster_41 rfl rfl ?_
        refine nk_iload_n (i := 1) dX8_cluster_42 rfl rfl ?_
        refine nk_iload_n (i := 2) dX8_cluster_43 rfl rfl ?_
        refine nk_cVi kX8_232 (s_X8_clusterOf hi hm (by omega) hx) dX8_cluster_44 mh_0 rfl rfl (by decide) (Nat.le_of_ble_eq_true rfl) ?_
        refine nk_aload_n (i := 0) dX8_cluster_47 rfl rfl ?_
        refine nk_cVi kX8_226 (s_X8_lowBits hi hm) dX8_cluster_48 mh_0 rfl rfl (by decide) (Nat.le_of_ble_eq_true rfl) ?_
        refine nk_iload_n (i := 3) dX8_cluster_51 rfl rfl ?_
        refine nk_cSi kX8_259 (s_X8_nodeTells) dX8_cluster_52 rfl rfl (by decide) (Nat.le_of_ble_eq_true rfl) ?_
        refine nk_ireturn dX8_cluster_55 rfl ?_
        first
        | exact ⟨by unfold sp_cluster; rw [if_neg h5], rfl⟩
        | (have c23 : ¬ (0 ≤ x.toInt ∧ x.toInt < (2 ^ (b - b / 2) : Nat)) := fun z => h23 ⟨z.1, by omega⟩
           exact ⟨by unfold sp_cluster; rw [if_pos h5, if_neg c23], rfl⟩)
        | (have c23 : 0 ≤ x.toInt ∧ x.toInt < (2 ^ (b - b / 2) : Nat) := ⟨h23.1, by omega⟩
           exact ⟨by unfold sp_cluster; rw [if_pos h5, if_pos c23, if_neg h35], rfl⟩)
        | exact ⟨by unfold sp_cluster; rw [if_pos h5, if_pos h23, if_pos h35, sp_n_nI (by omega), sp_n_nI (by omega)], rfl⟩
      · skip
        try simp only [nk_b0, Int32.toInt_toInt64, Classical.not_not, nk_l0, nk_l1, nk_l2, nk_l60] at h35
        refine nk_ldc qX8_49 dX8_cluster_38 ?_
        refine nk_ireturn dX8_cluster_40 rfl ?_
        first
        | exact ⟨by unfold sp_cluster; rw [if_neg h5], rfl⟩
        | (have c23 : ¬ (0 ≤ x.toInt ∧ x.toInt < (2 ^ (b - b / 2) : Nat)) := fun z => h23 ⟨z.1, by omega⟩
           exact ⟨by unfold sp_cluster; rw [if_pos h5, if_neg c23], rfl⟩)
        | (have c23 : 0 ≤ x.toInt ∧ x.toInt < (2 ^ (b - b / 2) : Nat) := ⟨h23.1, by omega⟩
           exact ⟨by unfold sp_cluster; rw [if_pos h5, if_pos c23, if_neg h35], rfl⟩)
        | exact ⟨by unfold sp_cluster; rw [if_pos h5, if_pos h23, if_pos h35, sp_n_nI (by omega), sp_n_nI (by omega)], rfl⟩
set_option maxRecDepth 20000 in
theorem s_X8_steps {G : nk_EG} {ad : Nat → Nat} {A : Nat → Nat → Int32} {I : Nat → Int32} (hi : mInj ad) {m b : Nat} (hm : mSh (A 0) 0 m b) {s k : Int32} : nk_Si G mX8_steps 7 [.ref (ad 0), .int s, .int k] (mh ad A I) (sp_steps m b (nk_mem (A 0) 0) s k) (mh ad A I) := by
  have h4 := hm.2.2.1
  have h10 := hm.2.2.2
  have ht := nk_tp_le h10
  have ht2 := nk_tp_2 b
  have hb2 := nk_2b h10
  have hl2 := nk_2l h10
  have hh2 := nk_2h h10
  refine nk_S.of (by decide +kernel) (Nat.le_of_ble_eq_true rfl) rfl ?_
  refine nk_aload_n (i := 0) dX8_steps_0 rfl rfl ?_
  refine nk_iload_n (i := 1) dX8_steps_1 rfl rfl ?_
  refine nk_cVi kX8_154 (s_X8_isSet hi hm.1 hm.2.2.1) dX8_steps_2 mh_0 rfl rfl (by decide) (Nat.le_of_ble_eq_true rfl) ?_
  refine nk_ifeq (tgt := 17) dX8_steps_5 (by decide) (fun h5 => ?_) (fun h5 => ?_)
  · skip
    try simp only [nk_b0, Int32.toInt_toInt64, Classical.not_not, nk_l0, nk_l1, nk_l2, nk_l60] at h5
    refine nk_ldc qX8_49 dX8_steps_17 ?_
    refine nk_ireturn dX8_steps_19 rfl ?_
    first
    | exact ⟨by unfold sp_steps; rw [if_neg h5], rfl⟩
    | exact ⟨by unfold sp_steps; rw [if_pos h5, if_neg h14], rfl⟩
  · skip
    try simp only [nk_b0, Int32.toInt_toInt64, Classical.not_not, nk_l0, nk_l1, nk_l2, nk_l60] at h5
    refine nk_aload_n (i := 0) dX8_steps_8 rfl rfl ?_
    refine nk_iload_n (i := 2) dX8_steps_9 rfl rfl ?_
    refine nk_i2l dX8_steps_10 ?_
    refine nk_cVi kX8_157 (s_X8_isKey hi hm.2.1 hm.2.2.2) dX8_steps_11 mh_0 rfl rfl (by decide) (Nat.le_of_ble_eq_true rfl) ?_
    refine nk_ifne (tgt := 20) dX8_steps_14 (by decide) (fun h14 => ?_) (fun h14 => ?_)
    · skip
      try simp only [nk_b0, Int32.toInt_toInt64, Classical.not_not, nk_l0, nk_l1, nk_l2, nk_l60] at h14
      obtain ⟨j, hj, rfl⟩ := nk_getN h5
      obtain ⟨k, hk, rfl⟩ := nk_getN h14
      unfold sp_steps sp_stp
      rw [if_pos h5, if_pos h14, sp_n_nI (by omega), sp_n_nI (by omega)]
      have hx := nk_kl (b := b) (k := k) (by omega)
      refine nk_aload_n (i := 0) dX8_steps_20 rfl rfl ?_
      refine nk_iconst (v := 0) dX8_steps_21 (by decide) ?_
      refine nk_iload_n (i := 1) dX8_steps_22 rfl rfl ?_
      refine nk_cVi kX8_168 (s_X8_keysOf hi (base := 0) (s := j) (by omega)) dX8_steps_23 mh_0 rfl rfl (by decide) (Nat.le_of_ble_eq_true rfl) ?_
      refine nk_ifeq (tgt := 38) dX8_steps_26 (by decide) (fun h26 => ?_) (fun h26 => ?_)
      · skip
        rw [nk_ct0] at h26
        refine nk_iconst (v := 1) dX8_steps_38 (by decide) ?_
        refine nk_ireturn dX8_steps_39 rfl ?_
        first
        | exact ⟨by rw [if_pos (Or.inl h26)], rfl⟩
        | exact ⟨by rw [if_pos (Or.inr (Int32.not_le.mp h35))], rfl⟩
        | (have c : ¬ (¬ sp_c (nk_mem (A 0) 0 j) b (k / 2 ^ (b / 2)) = 0 ∧ pf_lw (b / 2) (nI k) < sp_hi (sp_c (nk_mem (A 0) 0 j) b (k / 2 ^ (b / 2)))) := fun z => z.1 h67
           exact ⟨by rw [if_neg c], rfl⟩)
        | (have c : ¬ (¬ sp_c (nk_mem (A 0) 0 j) b (k / 2 ^ (b / 2)) = 0 ∧ pf_lw (b / 2) (nI k) < sp_hi (sp_c (nk_mem (A 0) 0 j) b (k / 2 ^ (b / 2)))) := fun z => absurd z.2 (Int32.not_lt.mpr h77)
           exact ⟨by rw [if_neg c], rfl⟩)
        | (have c : ¬ sp_c (nk_mem (A 0) 0 j) b (k / 2 ^ (b / 2)) = 0 ∧ pf_lw (b / 2) (nI k) < sp_hi (sp_c (nk_mem (A 0) 0 j) b (k / 2 ^ (b / 2))) := ⟨h67, Int32.not_le.mp h77⟩
           exact ⟨by rw [if_pos c], rfl⟩)
      · skip
        rw [nk_ct0] at h26
        refine nk_iload_n (i := 2) dX8_steps_29 rfl rfl ?_
        refine nk_aload_n (i := 0) dX8_steps_30 rfl rfl ?_
        refine nk_iload_n (i := 1) dX8_steps_31 rfl rfl ?_
        refine nk_cVi kX8_147 (s_X8_leastOf hi hm (by omega)) dX8_steps_32 mh_0 rfl rfl (by decide) (Nat.le_of_ble_eq_true rfl) ?_
        refine nk_icmpge (tgt := 40) dX8_steps_35 (by decide) (fun h35 => ?_) (fun h35 => ?_)
        · skip
          rw [if_neg (fun z => z.elim h26 (fun y => absurd y (Int32.not_lt.mpr h35)))]
          refine nk_aload_n (i := 0) dX8_steps_40 rfl rfl ?_
          refine nk_cVi kX8_226 (s_X8_lowBits hi hm) dX8_steps_41 mh_0 rfl rfl (by decide) (Nat.le_of_ble_eq_true rfl) ?_
          refine nk_istore_nT (i := 3) dX8_steps_44 rfl (by decide) ?_
          refine nk_aload_n (i := 0) dX8_steps_45 rfl rfl ?_
          refine nk_iload_n (i := 1) dX8_steps_46 rfl rfl ?_
          refine nk_iload_n (i := 2) dX8_steps_47 rfl rfl ?_
          refine nk_iload_n (i := 3) dX8_steps_48 rfl rfl ?_
          refine nk_ishr dX8_steps_49 ?_
          refine nk_top (y := nI (k / 2 ^ (b / 2))) (nk_srN (by omega) (by omega)) ?_
          refine nk_cVi kX8_232 (s_X8_clusterOf hi hm (by omega) hx) dX8_steps_50 mh_0 rfl rfl (by decide) (Nat.le_of_ble_eq_true rfl) ?_
          refine nk_istoreT dX8_steps_53 (by decide) ?_
          refine nk_iload_n (i := 2) dX8_steps_55 rfl rfl ?_
          refine nk_iconst (v := 1) dX8_steps_56 (by decide) ?_
          refine nk_iload_n (i := 3) dX8_steps_57 rfl rfl ?_
          refine nk_ishl dX8_steps_58 ?_
          refine nk_iconst (v := 1) dX8_steps_59 (by decide) ?_
          refine nk_isub dX8_steps_60 ?_
          refine nk_iand dX8_steps_61 ?_
          refine nk_istoreT dX8_steps_62 (by decide) ?_
          refine nk_iconst (v := 1) dX8_steps_64 (by decide) ?_
          refine nk_iload dX8_steps_65 rfl ?_
          refine nk_ifeq (tgt := 91) dX8_steps_67 (by decide) (fun h67 => ?_) (fun h67 => ?_)
          · skip
            refine nk_aload_n (i := 0) dX8_steps_91 rfl rfl ?_
            refine nk_iload_n (i := 1) dX8_steps_92 rfl rfl ?_
            refine nk_cVi kX8_235 (s_X8_summaryOf hi hm (by omega)) dX8_steps_93 mh_0 rfl rfl (by decide) (Nat.le_of_ble_eq_true rfl) ?_
            refine nk_aload_n (i := 0) dX8_steps_96 rfl rfl ?_
            refine nk_cVi kX8_229 (s_X8_highBits hi hm) dX8_steps_97 mh_0 rfl rfl (by decide) (Nat.le_of_ble_eq_true rfl) ?_
            refine nk_iload_n (i := 2) dX8_steps_100 rfl rfl ?_
            refine nk_iload_n (i := 3) dX8_steps_101 rfl rfl ?_
            refine nk_ishr dX8_steps_102 ?_
            refine nk_top (y := nI (k / 2 ^ (b / 2))) (nk_srN (by omega) (by omega)) ?_
            refine nk_cSi kX8_250 (s_X8_stepsIn (by omega)) dX8_steps_103 rfl rfl (by decide) (Nat.le_of_ble_eq_true rfl) ?_
            refine nk_iadd dX8_steps_106 ?_
            refine nk_ireturn dX8_steps_107 rfl ?_
            first
            | exact ⟨by rw [if_pos (Or.inl h26)], rfl⟩
            | exact ⟨by rw [if_pos (Or.inr (Int32.not_le.mp h35))], rfl⟩
            | (have c : ¬ (¬ sp_c (nk_mem (A 0) 0 j) b (k / 2 ^ (b / 2)) = 0 ∧ pf_lw (b / 2) (nI k) < sp_hi (sp_c (nk_mem (A 0) 0 j) b (k / 2 ^ (b / 2)))) := fun z => z.1 h67
               exact ⟨by rw [if_neg c], rfl⟩)
            | (have c : ¬ (¬ sp_c (nk_mem (A 0) 0 j) b (k / 2 ^ (b / 2)) = 0 ∧ pf_lw (b / 2) (nI k) < sp_hi (sp_c (nk_mem (A 0) 0 j) b (k / 2 ^ (b / 2)))) := fun z => absurd z.2 (Int32.not_lt.mpr h77)
               exact ⟨by rw [if_neg c], rfl⟩)
            | (have c : ¬ sp_c (nk_mem (A 0) 0 j) b (k / 2 ^ (b / 2)) = 0 ∧ pf_lw (b / 2) (nI k) < sp_hi (sp_c (nk_mem (A 0) 0 j) b (k / 2 ^ (b / 2))) := ⟨h67, Int32.not_le.mp h77⟩
               exact ⟨by rw [if_pos c], rfl⟩)
          · skip
            refine nk_iload dX8_steps_70 rfl ?_
            refine nk_cSi kX8_247 (s_X8_greatestBit) dX8_steps_72 rfl rfl (by decide) (Nat.le_of_ble_eq_true rfl) ?_
            refine nk_iload dX8_steps_75 rfl ?_
            refine nk_icmple (tgt := 91) dX8_steps_77 (by decide) (fun h77 => ?_) (fun h77 => ?_)
            · skip
              refine nk_aload_n (i := 0) dX8_steps_91 rfl rfl ?_
              refine nk_iload_n (i := 1) dX8_steps_92 rfl rfl ?_
              refine nk_cVi kX8_235 (s_X8_summaryOf hi hm (by omega)) dX8_steps_93 mh_0 rfl rfl (by decide) (Nat.le_of_ble_eq_true rfl) ?_
              refine nk_aload_n (i := 0) dX8_steps_96 rfl rfl ?_
              refine nk_cVi kX8_229 (s_X8_highBits hi hm) dX8_steps_97 mh_0 rfl rfl (by decide) (Nat.le_of_ble_eq_true rfl) ?_
              refine nk_iload_n (i := 2) dX8_steps_100 rfl rfl ?_
              refine nk_iload_n (i := 3) dX8_steps_101 rfl rfl ?_
              refine nk_ishr dX8_steps_102 ?_
              refine nk_top (y := nI (k / 2 ^ (b / 2))) (nk_srN (by omega) (by omega)) ?_
              refine nk_cSi kX8_250 (s_X8_stepsIn (by omega)) dX8_steps_103 rfl rfl (by decide) (Nat.le_of_ble_eq_true rfl) ?_
              refine nk_iadd dX8_steps_106 ?_
              refine nk_ireturn dX8_steps_107 rfl ?_
              first
              | exact ⟨by rw [if_pos (Or.inl h26)], rfl⟩
              | exact ⟨by rw [if_pos (Or.inr (Int32.not_le.mp h35))], rfl⟩
              | (have c : ¬ (¬ sp_c (nk_mem (A 0) 0 j) b (k / 2 ^ (b / 2)) = 0 ∧ pf_lw (b / 2) (nI k) < sp_hi (sp_c (nk_mem (A 0) 0 j) b (k / 2 ^ (b / 2)))) := fun z => z.1 h67
                 exact ⟨by rw [if_neg c], rfl⟩)
              | (have c : ¬ (¬ sp_c (nk_mem (A 0) 0 j) b (k / 2 ^ (b / 2)) = 0 ∧ pf_lw (b / 2) (nI k) < sp_hi (sp_c (nk_mem (A 0) 0 j) b (k / 2 ^ (b / 2)))) := fun z => absurd z.2 (Int32.not_lt.mpr h77)
                 exact ⟨by rw [if_neg c], rfl⟩)
              | (have c : ¬ sp_c (nk_mem (A 0) 0 j) b (k / 2 ^ (b / 2)) = 0 ∧ pf_lw (b / 2) (nI k) < sp_hi (sp_c (nk_mem (A 0) 0 j) b (k / 2 ^ (b / 2))) := ⟨h67, Int32.not_le.mp h77⟩
                 exact ⟨by rw [if_pos c], rfl⟩)
            · skip
              refine nk_iload dX8_steps_80 rfl ?_
              refine nk_iload_n (i := 3) dX8_steps_82 rfl rfl ?_
              refine nk_iload dX8_steps_83 rfl ?_
              refine nk_cSi kX8_250 (s_X8_stepsIn (by omega)) dX8_steps_85 rfl rfl (by decide) (Nat.le_of_ble_eq_true rfl) ?_
              refine nk_goto (tgt := 106) dX8_steps_88 (by decide) ?_
              refine nk_iadd dX8_steps_106 ?_
              refine nk_ireturn dX8_steps_107 rfl ?_
              first
              | exact ⟨by rw [if_pos (Or.inl h26)], rfl⟩
              | exact ⟨by rw [if_pos (Or.inr (Int32.not_le.mp h35))], rfl⟩
              | (have c : ¬ (¬ sp_c (nk_mem (A 0) 0 j) b (k / 2 ^ (b / 2)) = 0 ∧ pf_lw (b / 2) (nI k) < sp_hi (sp_c (nk_mem (A 0) 0 j) b (k / 2 ^ (b / 2)))) := fun z => z.1 h67
                 exact ⟨by rw [if_neg c], rfl⟩)
              | (have c : ¬ (¬ sp_c (nk_mem (A 0) 0 j) b (k / 2 ^ (b / 2)) = 0 ∧ pf_lw (b / 2) (nI k) < sp_hi (sp_c (nk_mem (A 0) 0 j) b (k / 2 ^ (b / 2)))) := fun z => absurd z.2 (Int32.not_lt.mpr h77)
                 exact ⟨by rw [if_neg c], rfl⟩)
              | (have c : ¬ sp_c (nk_mem (A 0) 0 j) b (k / 2 ^ (b / 2)) = 0 ∧ pf_lw (b / 2) (nI k) < sp_hi (sp_c (nk_mem (A 0) 0 j) b (k / 2 ^ (b / 2))) := ⟨h67, Int32.not_le.mp h77⟩
                 exact ⟨by rw [if_pos c], rfl⟩)
        · skip
          refine nk_iconst (v := 1) dX8_steps_38 (by decide) ?_
          refine nk_ireturn dX8_steps_39 rfl ?_
          first
          | exact ⟨by rw [if_pos (Or.inl h26)], rfl⟩
          | exact ⟨by rw [if_pos (Or.inr (Int32.not_le.mp h35))], rfl⟩
          | (have c : ¬ (¬ sp_c (nk_mem (A 0) 0 j) b (k / 2 ^ (b / 2)) = 0 ∧ pf_lw (b / 2) (nI k) < sp_hi (sp_c (nk_mem (A 0) 0 j) b (k / 2 ^ (b / 2)))) := fun z => z.1 h67
             exact ⟨by rw [if_neg c], rfl⟩)
          | (have c : ¬ (¬ sp_c (nk_mem (A 0) 0 j) b (k / 2 ^ (b / 2)) = 0 ∧ pf_lw (b / 2) (nI k) < sp_hi (sp_c (nk_mem (A 0) 0 j) b (k / 2 ^ (b / 2)))) := fun z => absurd z.2 (Int32.not_lt.mpr h77)
             exact ⟨by rw [if_neg c], rfl⟩)
          | (have c : ¬ sp_c (nk_mem (A 0) 0 j) b (k / 2 ^ (b / 2)) = 0 ∧ pf_lw (b / 2) (nI k) < sp_hi (sp_c (nk_mem (A 0) 0 j) b (k / 2 ^ (b / 2))) := ⟨h67, Int32.not_le.mp h77⟩
             exact ⟨by rw [if_pos c], rfl⟩)
    · skip
      try simp only [nk_b0, Int32.toInt_toInt64, Classical.not_not, nk_l0, nk_l1, nk_l2, nk_l60] at h14
      refine nk_ldc qX8_49 dX8_steps_17 ?_
      refine nk_ireturn dX8_steps_19 rfl ?_
      first
      | exact ⟨by unfold sp_steps; rw [if_neg h5], rfl⟩
      | exact ⟨by unfold sp_steps; rw [if_pos h5, if_neg h14], rfl⟩

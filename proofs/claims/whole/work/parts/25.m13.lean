/-! the reference: spans turned, sets joined, shifted, gathered; images -/
set_option maxRecDepth 20000 in
theorem l_X8_flip {G : nk_EG} {ad : Nat → Nat} {A : Nat → Nat → Int32} {I : Nat → Int32} (hi : mInj ad) {F : Nat → Int32} {j a c : Nat} {Φ : Option Value → nk_AH → Prop} (hj : j < 4) (hac : a ≤ c) (hc : c < 1024) (kk : ∀ l4 : Option Value, nk_J G mX8_flip 4 Φ 0 0 61 [some (.ref (ad 0)), some (.int (nI j)), some (.int (nI a)), some (.int (nI c)), l4] [] (mh ad (va_up A 0 (a_fl F j a (c + 1 - a))) I)) : ∀ (n : Nat) (i : Nat) (h1 : a + i ≤ c + 1) (h2 : c + 1 < a + i + n), nk_J G mX8_flip 4 (Φ) 0 0 41 [some (.ref (ad 0)), some (.int (nI j)), some (.int (nI a)), some (.int (nI c)), some (.int (nI (a + i)))] [] (mh ad (va_up A 0 (a_fl F j a i)) I) := by
  intro n
  induction n with
  | zero => intro i h1 h2; omega
  | succ n ih =>
    intro i h1 h2
    refine nk_iload dX8_flip_41 rfl ?_
    refine nk_iload_n (i := 3) dX8_flip_43 rfl rfl ?_
    refine nk_icmpgt (tgt := 61) dX8_flip_44 (by decide) (fun h44 => ?_) (fun h44 => ?_)
    · skip
      have hk := nk_ltI (a := c) h44 (by omega) (by omega)
      have e2 : i = c + 1 - a := by omega
      subst e2
      exact kk _
    · skip
      have hk := nk_nltI (a := c) h44 (by omega) (by omega)
      refine nk_aload_n (i := 0) dX8_flip_47 rfl rfl ?_
      refine nk_iconst (v := 0) dX8_flip_48 (by decide) ?_
      refine nk_iload_n (i := 1) dX8_flip_49 rfl rfl ?_
      refine nk_iload dX8_flip_50 rfl ?_
      refine nk_cVv kX8_164 (s_X8_turnKey hi (base := 0) (s := j) (k := a + i) (by omega) (by omega)) dX8_flip_52 mh_0 rfl rfl (by decide) (Nat.le_of_ble_eq_true rfl) ?_
      refine nk_iincT dX8_flip_55 rfl (nk_i1 (a + i)) (by decide) ?_
      refine nk_goto (tgt := 41) dX8_flip_58 (by decide) ?_
      exact (ih (i + 1) (by omega) (by omega)).to rfl rfl (by rw [bx_uu]; rfl)
set_option maxRecDepth 20000 in
theorem s_X8_flip {G : nk_EG} {ad : Nat → Nat} {A : Nat → Nat → Int32} {I : Nat → Int32} (hi : mInj ad) {m b : Nat} (hm : mSh (A 0) 0 m b) {u : Nat} (hu : I 0 = nI u) (hu24 : u ≤ 24) {s a c : Int32} : nk_Si G mX8_flip 4 [.ref (ad 0), .int s, .int a, .int c] (mh ad A I) (sp_flip A u m b s a c) (mh ad (g_A (c_flip m b s a c) A (a_fl (a_kp (A 0) u) (sp_n s) (sp_n a) (sp_n c + 1 - sp_n a))) (g_I (c_flip m b s a c) I u)) := by
  have h4 := hm.2.2.1
  have h10 := hm.2.2.2
  have ht := nk_tp_le h10
  refine nk_S.of (by decide +kernel) (Nat.le_of_ble_eq_true rfl) rfl ?_
  refine nk_aload_n (i := 0) dX8_flip_0 rfl rfl ?_
  refine nk_iload_n (i := 1) dX8_flip_1 rfl rfl ?_
  refine nk_cVi kX8_154 (s_X8_isSet hi hm.1 hm.2.2.1) dX8_flip_2 mh_0 rfl rfl (by decide) (Nat.le_of_ble_eq_true rfl) ?_
  refine nk_ifeq (tgt := 31) dX8_flip_5 (by decide) (fun h5 => ?_) (fun h5 => ?_)
  · skip
    try simp only [nk_b0, Int32.toInt_toInt64, Classical.not_not, nk_l0, nk_l1, nk_l2, nk_l60] at h5
    refine nk_ldc qX8_49 dX8_flip_31 ?_
    refine nk_ireturn dX8_flip_33 rfl ?_
    have cc : ¬ c_flip m b s a c := fun z => by
      first
      | exact h5 z.1
      | exact h14 z.2.1
      | exact h23 z.2.2.1
      | exact h28 z.2.2.2
    exact ⟨by unfold sp_flip; rw [if_neg cc], by unfold g_A g_I; rw [if_neg cc, if_neg cc]⟩
  · skip
    try simp only [nk_b0, Int32.toInt_toInt64, Classical.not_not, nk_l0, nk_l1, nk_l2, nk_l60] at h5
    refine nk_aload_n (i := 0) dX8_flip_8 rfl rfl ?_
    refine nk_iload_n (i := 2) dX8_flip_9 rfl rfl ?_
    refine nk_i2l dX8_flip_10 ?_
    refine nk_cVi kX8_157 (s_X8_isKey hi hm.2.1 hm.2.2.2) dX8_flip_11 mh_0 rfl rfl (by decide) (Nat.le_of_ble_eq_true rfl) ?_
    refine nk_ifeq (tgt := 31) dX8_flip_14 (by decide) (fun h14 => ?_) (fun h14 => ?_)
    · skip
      try simp only [nk_b0, Int32.toInt_toInt64, Classical.not_not, nk_l0, nk_l1, nk_l2, nk_l60] at h14
      refine nk_ldc qX8_49 dX8_flip_31 ?_
      refine nk_ireturn dX8_flip_33 rfl ?_
      have cc : ¬ c_flip m b s a c := fun z => by
        first
        | exact h5 z.1
        | exact h14 z.2.1
        | exact h23 z.2.2.1
        | exact h28 z.2.2.2
      exact ⟨by unfold sp_flip; rw [if_neg cc], by unfold g_A g_I; rw [if_neg cc, if_neg cc]⟩
    · skip
      try simp only [nk_b0, Int32.toInt_toInt64, Classical.not_not, nk_l0, nk_l1, nk_l2, nk_l60] at h14
      refine nk_aload_n (i := 0) dX8_flip_17 rfl rfl ?_
      refine nk_iload_n (i := 3) dX8_flip_18 rfl rfl ?_
      refine nk_i2l dX8_flip_19 ?_
      refine nk_cVi kX8_157 (s_X8_isKey hi hm.2.1 hm.2.2.2) dX8_flip_20 mh_0 rfl rfl (by decide) (Nat.le_of_ble_eq_true rfl) ?_
      refine nk_ifeq (tgt := 31) dX8_flip_23 (by decide) (fun h23 => ?_) (fun h23 => ?_)
      · skip
        try simp only [nk_b0, Int32.toInt_toInt64, Classical.not_not, nk_l0, nk_l1, nk_l2, nk_l60] at h23
        refine nk_ldc qX8_49 dX8_flip_31 ?_
        refine nk_ireturn dX8_flip_33 rfl ?_
        have cc : ¬ c_flip m b s a c := fun z => by
          first
          | exact h5 z.1
          | exact h14 z.2.1
          | exact h23 z.2.2.1
          | exact h28 z.2.2.2
        exact ⟨by unfold sp_flip; rw [if_neg cc], by unfold g_A g_I; rw [if_neg cc, if_neg cc]⟩
      · skip
        try simp only [nk_b0, Int32.toInt_toInt64, Classical.not_not, nk_l0, nk_l1, nk_l2, nk_l60] at h23
        refine nk_iload_n (i := 2) dX8_flip_26 rfl rfl ?_
        refine nk_iload_n (i := 3) dX8_flip_27 rfl rfl ?_
        refine nk_icmple (tgt := 34) dX8_flip_28 (by decide) (fun h28 => ?_) (fun h28 => ?_)
        · skip
          obtain ⟨j, hj, rfl⟩ := nk_getN h5
          obtain ⟨a, ha, rfl⟩ := nk_getN h14
          obtain ⟨c, hc, rfl⟩ := nk_getN h23
          have cc : c_flip m b (nI j) (nI a) (nI c) := ⟨h5, h14, h23, h28⟩
          have hac := nk_leI h28 (by omega) (by omega)
          unfold sp_flip g_A g_I
          rw [if_pos cc, if_pos cc, if_pos cc, sp_n_nI (by omega), sp_n_nI (by omega), sp_n_nI (by omega)]
          refine nk_aload_n (i := 0) dX8_flip_34 rfl rfl ?_
          refine nk_cVv kX8_161 (s_X8_keepPast hi hu hu24) dX8_flip_35 mh_0 rfl rfl (by decide) (Nat.le_of_ble_eq_true rfl) ?_
          refine nk_iload_n (i := 2) dX8_flip_38 rfl rfl ?_
          refine nk_istoreT dX8_flip_39 (by decide) ?_
          refine l_X8_flip hi (by omega) hac (by omega) (fun l4 => ?_) (c + 2) 0 (by omega) (by omega)
          refine nk_aload_n (i := 0) dX8_flip_61 rfl rfl ?_
          refine nk_iconst (v := 0) dX8_flip_62 (by decide) ?_
          refine nk_iload_n (i := 1) dX8_flip_63 rfl rfl ?_
          refine nk_cVi kX8_168 (s_X8_keysOf hi (base := 0) (s := j) (by omega)) dX8_flip_64 mh_0 rfl rfl (by decide) (Nat.le_of_ble_eq_true rfl) ?_
          refine nk_ireturn dX8_flip_67 rfl ?_
          exact ⟨rfl, rfl⟩
        · skip
          refine nk_ldc qX8_49 dX8_flip_31 ?_
          refine nk_ireturn dX8_flip_33 rfl ?_
          have cc : ¬ c_flip m b s a c := fun z => by
            first
            | exact h5 z.1
            | exact h14 z.2.1
            | exact h23 z.2.2.1
            | exact h28 z.2.2.2
          exact ⟨by unfold sp_flip; rw [if_neg cc], by unfold g_A g_I; rw [if_neg cc, if_neg cc]⟩
set_option maxRecDepth 20000 in
theorem l_X8_join {G : nk_EG} {ad : Nat → Nat} {A : Nat → Nat → Int32} {I : Nat → Int32} (hi : mInj ad) {F : Nat → Int32} {x : Int32} {j j2 j3 : Nat} {Φ : Option Value → nk_AH → Prop} (hj : j < 4) (hj2 : j2 < 4) (hj3 : j3 < 4) (kk : ∀ l5 l6 l7 : Option Value, nk_J G mX8_join 3 Φ 0 0 155 [some (.ref (ad 0)), some (.int x), some (.int (nI j)), some (.int (nI j2)), some (.int (nI j3)), l5, l6, l7] [] (mh ad (va_up A 0 (a_jn F x j j2 j3 32)) I)) : ∀ (n : Nat) (k : Nat) (l6 l7 : Option Value) (h1 : k ≤ 32) (h2 : 32 < k + n), nk_J G mX8_join 3 (Φ) 0 0 47 [some (.ref (ad 0)), some (.int x), some (.int (nI j)), some (.int (nI j2)), some (.int (nI j3)), some (.int (nI k)), l6, l7] [] (mh ad (va_up A 0 (a_jn F x j j2 j3 k)) I) := by
  intro n
  induction n with
  | zero => intro k l6 l7 h1 h2; omega
  | succ n ih =>
    intro k l6 l7 h1 h2
    refine nk_iload dX8_join_47 rfl ?_
    refine nk_bipush (v := 32) dX8_join_49 (by decide) ?_
    refine nk_icmpge (tgt := 155) dX8_join_51 (by decide) (fun h51 => ?_) (fun h51 => ?_)
    · skip
      have e2 : k = 32 := Nat.le_antisymm h1 (nk_leI (a := 32) h51 (by omega) (by omega))
      subst e2
      exact kk _ _ _
    · skip
      have hk := nk_nleI (a := 32) h51 (by omega) (by omega)
      refine nk_aload_n (i := 0) dX8_join_54 rfl rfl ?_
      refine nk_getf fX8_7 dX8_join_55 mh_0 rfl ?_
      refine nk_bipush (v := 6) dX8_join_58 (by decide) ?_
      refine nk_bipush (v := 32) dX8_join_60 (by decide) ?_
      refine nk_iload_n (i := 2) dX8_join_62 rfl rfl ?_
      refine nk_imul dX8_join_63 ?_
      refine nk_iadd dX8_join_64 ?_
      refine nk_iload dX8_join_65 rfl ?_
      refine nk_iadd dX8_join_67 ?_
      refine nk_ialdN (j := 6 + 32 * j + k) dX8_join_68 (mh_1 hi) (nk_ixw1 j k) (by omega) (by decide) ?_
      refine nk_istoreT dX8_join_69 (by decide) ?_
      refine nk_aload_n (i := 0) dX8_join_71 rfl rfl ?_
      refine nk_getf fX8_7 dX8_join_72 mh_0 rfl ?_
      refine nk_bipush (v := 6) dX8_join_75 (by decide) ?_
      refine nk_bipush (v := 32) dX8_join_77 (by decide) ?_
      refine nk_iload_n (i := 3) dX8_join_79 rfl rfl ?_
      refine nk_imul dX8_join_80 ?_
      refine nk_iadd dX8_join_81 ?_
      refine nk_iload dX8_join_82 rfl ?_
      refine nk_iadd dX8_join_84 ?_
      refine nk_ialdN (j := 6 + 32 * j2 + k) dX8_join_85 (mh_1 hi) (nk_ixw1 j2 k) (by omega) (by decide) ?_
      refine nk_istoreT dX8_join_86 (by decide) ?_
      refine nk_aload_n (i := 0) dX8_join_88 rfl rfl ?_
      refine nk_getf fX8_7 dX8_join_89 mh_0 rfl ?_
      refine nk_bipush (v := 6) dX8_join_92 (by decide) ?_
      refine nk_bipush (v := 32) dX8_join_94 (by decide) ?_
      refine nk_iload dX8_join_96 rfl ?_
      refine nk_imul dX8_join_98 ?_
      refine nk_iadd dX8_join_99 ?_
      refine nk_iload dX8_join_100 rfl ?_
      refine nk_iadd dX8_join_102 ?_
      refine nk_iload_n (i := 1) dX8_join_103 rfl rfl ?_
      refine nk_ifne (tgt := 115) dX8_join_104 (by decide) (fun h104 => ?_) (fun h104 => ?_)
      · skip
        refine nk_iload_n (i := 1) dX8_join_115 rfl rfl ?_
        refine nk_iconst (v := 1) dX8_join_116 (by decide) ?_
        refine nk_icmpne (tgt := 128) dX8_join_117 (by decide) (fun h117 => ?_) (fun h117 => ?_)
        · skip
          refine nk_iload_n (i := 1) dX8_join_128 rfl rfl ?_
          refine nk_iconst (v := 2) dX8_join_129 (by decide) ?_
          refine nk_icmpne (tgt := 141) dX8_join_130 (by decide) (fun h130 => ?_) (fun h130 => ?_)
          · skip
            refine nk_iload dX8_join_141 rfl ?_
            refine nk_iload dX8_join_143 rfl ?_
            refine nk_iconst (v := -1) dX8_join_145 (by decide) ?_
            refine nk_ixor dX8_join_146 ?_
            refine nk_iand dX8_join_147 ?_
            refine nk_top (y := pf_op x (a_jn F x j j2 j3 k (6 + 32 * j + k)) (a_jn F x j j2 j3 k (6 + 32 * j2 + k))) (by unfold pf_op; first | (rw [if_pos h104]; rfl) | (rw [if_neg h104, if_pos h117]; rfl) | (rw [if_neg h104, if_neg h117, if_pos h130]; rfl) | (rw [if_neg h104, if_neg h117, if_neg h130]; rfl)) ?_
            refine nk_iastN (j := 6 + 32 * j3 + k) dX8_join_148 (mh_1 hi) (nk_ixw1 j3 k) (by omega) (by decide) ?_
            refine nk_J.to ?_ rfl rfl (mu_A0 hi)
            refine nk_iincT dX8_join_149 rfl (nk_i1 k) (by decide) ?_
            refine nk_goto (tgt := 47) dX8_join_152 (by decide) ?_
            exact (ih (k + 1) _ _ (by omega) (by omega)).to rfl rfl (by rw [bx_uu]; rfl)
          · skip
            refine nk_iload dX8_join_133 rfl ?_
            refine nk_iload dX8_join_135 rfl ?_
            refine nk_ixor dX8_join_137 ?_
            refine nk_goto (tgt := 148) dX8_join_138 (by decide) ?_
            refine nk_top (y := pf_op x (a_jn F x j j2 j3 k (6 + 32 * j + k)) (a_jn F x j j2 j3 k (6 + 32 * j2 + k))) (by unfold pf_op; first | (rw [if_pos h104]; rfl) | (rw [if_neg h104, if_pos h117]; rfl) | (rw [if_neg h104, if_neg h117, if_pos h130]; rfl) | (rw [if_neg h104, if_neg h117, if_neg h130]; rfl)) ?_
            refine nk_iastN (j := 6 + 32 * j3 + k) dX8_join_148 (mh_1 hi) (nk_ixw1 j3 k) (by omega) (by decide) ?_
            refine nk_J.to ?_ rfl rfl (mu_A0 hi)
            refine nk_iincT dX8_join_149 rfl (nk_i1 k) (by decide) ?_
            refine nk_goto (tgt := 47) dX8_join_152 (by decide) ?_
            exact (ih (k + 1) _ _ (by omega) (by omega)).to rfl rfl (by rw [bx_uu]; rfl)
        · skip
          refine nk_iload dX8_join_120 rfl ?_
          refine nk_iload dX8_join_122 rfl ?_
          refine nk_ior dX8_join_124 ?_
          refine nk_goto (tgt := 148) dX8_join_125 (by decide) ?_
          refine nk_top (y := pf_op x (a_jn F x j j2 j3 k (6 + 32 * j + k)) (a_jn F x j j2 j3 k (6 + 32 * j2 + k))) (by unfold pf_op; first | (rw [if_pos h104]; rfl) | (rw [if_neg h104, if_pos h117]; rfl) | (rw [if_neg h104, if_neg h117, if_pos h130]; rfl) | (rw [if_neg h104, if_neg h117, if_neg h130]; rfl)) ?_
          refine nk_iastN (j := 6 + 32 * j3 + k) dX8_join_148 (mh_1 hi) (nk_ixw1 j3 k) (by omega) (by decide) ?_
          refine nk_J.to ?_ rfl rfl (mu_A0 hi)
          refine nk_iincT dX8_join_149 rfl (nk_i1 k) (by decide) ?_
          refine nk_goto (tgt := 47) dX8_join_152 (by decide) ?_
          exact (ih (k + 1) _ _ (by omega) (by omega)).to rfl rfl (by rw [bx_uu]; rfl)
      · skip
        refine nk_iload dX8_join_107 rfl ?_
        refine nk_iload dX8_join_109 rfl ?_
        refine nk_iand dX8_join_111 ?_
        refine nk_goto (tgt := 148) dX8_join_112 (by decide) ?_
        refine nk_top (y := pf_op x (a_jn F x j j2 j3 k (6 + 32 * j + k)) (a_jn F x j j2 j3 k (6 + 32 * j2 + k))) (by unfold pf_op; first | (rw [if_pos h104]; rfl) | (rw [if_neg h104, if_pos h117]; rfl) | (rw [if_neg h104, if_neg h117, if_pos h130]; rfl) | (rw [if_neg h104, if_neg h117, if_neg h130]; rfl)) ?_
        refine nk_iastN (j := 6 + 32 * j3 + k) dX8_join_148 (mh_1 hi) (nk_ixw1 j3 k) (by omega) (by decide) ?_
        refine nk_J.to ?_ rfl rfl (mu_A0 hi)
        refine nk_iincT dX8_join_149 rfl (nk_i1 k) (by decide) ?_
        refine nk_goto (tgt := 47) dX8_join_152 (by decide) ?_
        exact (ih (k + 1) _ _ (by omega) (by omega)).to rfl rfl (by rw [bx_uu]; rfl)
set_option maxRecDepth 20000 in
theorem s_X8_join {G : nk_EG} {ad : Nat → Nat} {A : Nat → Nat → Int32} {I : Nat → Int32} (hi : mInj ad) {m b : Nat} (hm : mSh (A 0) 0 m b) {u : Nat} (hu : I 0 = nI u) (hu24 : u ≤ 24) {x s1 s2 s3 : Int32} : nk_Si G mX8_join 3 [.ref (ad 0), .int x, .int s1, .int s2, .int s3] (mh ad A I) (sp_join A u m x s1 s2 s3) (mh ad (g_A (c_join m x s1 s2 s3) A (a_jn (a_kp (A 0) u) x (sp_n s1) (sp_n s2) (sp_n s3) 32)) (g_I (c_join m x s1 s2 s3) I u)) := by
  have h4 := hm.2.2.1
  have h10 := hm.2.2.2
  have ht := nk_tp_le h10
  refine nk_S.of (by decide +kernel) (Nat.le_of_ble_eq_true rfl) rfl ?_
  refine nk_iload_n (i := 1) dX8_join_0 rfl rfl ?_
  refine nk_i2l dX8_join_1 ?_
  refine nk_lconst (v := 0) dX8_join_2 rfl ?_
  refine nk_ldc2 qX8_175 dX8_join_3 ?_
  refine nk_cSi kX8_39 (s_X8_in) dX8_join_6 rfl rfl (by decide) (Nat.le_of_ble_eq_true rfl) ?_
  refine nk_ifeq (tgt := 37) dX8_join_9 (by decide) (fun h9 => ?_) (fun h9 => ?_)
  · skip
    try simp only [nk_b0, Int32.toInt_toInt64, Classical.not_not, nk_l0, nk_l1, nk_l2, nk_l3, nk_l9, nk_l9m, nk_l40] at h9
    refine nk_ldc qX8_49 dX8_join_37 ?_
    refine nk_ireturn dX8_join_39 rfl ?_
    have cc : ¬ c_join m x s1 s2 s3 := fun z => by
      first
      | exact h9 z.1
      | exact h17 z.2.1
      | exact h25 z.2.2.1
      | exact h34 z.2.2.2
    exact ⟨by unfold sp_join; rw [if_neg cc], by unfold g_A g_I; rw [if_neg cc, if_neg cc]⟩
  · skip
    try simp only [nk_b0, Int32.toInt_toInt64, Classical.not_not, nk_l0, nk_l1, nk_l2, nk_l3, nk_l9, nk_l9m, nk_l40] at h9
    refine nk_aload_n (i := 0) dX8_join_12 rfl rfl ?_
    refine nk_iload_n (i := 2) dX8_join_13 rfl rfl ?_
    refine nk_cVi kX8_154 (s_X8_isSet hi hm.1 hm.2.2.1) dX8_join_14 mh_0 rfl rfl (by decide) (Nat.le_of_ble_eq_true rfl) ?_
    refine nk_ifeq (tgt := 37) dX8_join_17 (by decide) (fun h17 => ?_) (fun h17 => ?_)
    · skip
      try simp only [nk_b0, Int32.toInt_toInt64, Classical.not_not, nk_l0, nk_l1, nk_l2, nk_l60] at h17
      refine nk_ldc qX8_49 dX8_join_37 ?_
      refine nk_ireturn dX8_join_39 rfl ?_
      have cc : ¬ c_join m x s1 s2 s3 := fun z => by
        first
        | exact h9 z.1
        | exact h17 z.2.1
        | exact h25 z.2.2.1
        | exact h34 z.2.2.2
      exact ⟨by unfold sp_join; rw [if_neg cc], by unfold g_A g_I; rw [if_neg cc, if_neg cc]⟩
    · skip
      try simp only [nk_b0, Int32.toInt_toInt64, Classical.not_not, nk_l0, nk_l1, nk_l2, nk_l60] at h17
      refine nk_aload_n (i := 0) dX8_join_20 rfl rfl ?_
      refine nk_iload_n (i := 3) dX8_join_21 rfl rfl ?_
      refine nk_cVi kX8_154 (s_X8_isSet hi hm.1 hm.2.2.1) dX8_join_22 mh_0 rfl rfl (by decide) (Nat.le_of_ble_eq_true rfl) ?_
      refine nk_ifeq (tgt := 37) dX8_join_25 (by decide) (fun h25 => ?_) (fun h25 => ?_)
      · skip
        try simp only [nk_b0, Int32.toInt_toInt64, Classical.not_not, nk_l0, nk_l1, nk_l2, nk_l60] at h25
        refine nk_ldc qX8_49 dX8_join_37 ?_
        refine nk_ireturn dX8_join_39 rfl ?_
        have cc : ¬ c_join m x s1 s2 s3 := fun z => by
          first
          | exact h9 z.1
          | exact h17 z.2.1
          | exact h25 z.2.2.1
          | exact h34 z.2.2.2
        exact ⟨by unfold sp_join; rw [if_neg cc], by unfold g_A g_I; rw [if_neg cc, if_neg cc]⟩
      · skip
        try simp only [nk_b0, Int32.toInt_toInt64, Classical.not_not, nk_l0, nk_l1, nk_l2, nk_l60] at h25
        refine nk_aload_n (i := 0) dX8_join_28 rfl rfl ?_
        refine nk_iload dX8_join_29 rfl ?_
        refine nk_cVi kX8_154 (s_X8_isSet hi hm.1 hm.2.2.1) dX8_join_31 mh_0 rfl rfl (by decide) (Nat.le_of_ble_eq_true rfl) ?_
        refine nk_ifne (tgt := 40) dX8_join_34 (by decide) (fun h34 => ?_) (fun h34 => ?_)
        · skip
          try simp only [nk_b0, Int32.toInt_toInt64, Classical.not_not, nk_l0, nk_l1, nk_l2, nk_l60] at h34
          obtain ⟨j, hj, rfl⟩ := nk_getN h17
          obtain ⟨j2, hj2, rfl⟩ := nk_getN h25
          obtain ⟨j3, hj3, rfl⟩ := nk_getN h34
          have cc : c_join m x (nI j) (nI j2) (nI j3) := ⟨h9, h17, h25, h34⟩
          unfold sp_join g_A g_I
          rw [if_pos cc, if_pos cc, if_pos cc, sp_n_nI (by omega), sp_n_nI (by omega), sp_n_nI (by omega)]
          refine nk_aload_n (i := 0) dX8_join_40 rfl rfl ?_
          refine nk_cVv kX8_161 (s_X8_keepPast hi hu hu24) dX8_join_41 mh_0 rfl rfl (by decide) (Nat.le_of_ble_eq_true rfl) ?_
          refine nk_iconst (v := 0) dX8_join_44 (by decide) ?_
          refine nk_istoreT dX8_join_45 (by decide) ?_
          refine l_X8_join hi (by omega) (by omega) (by omega) (fun l5 l6 l7 => ?_) 33 0 none none (by omega) (by omega)
          refine nk_aload_n (i := 0) dX8_join_155 rfl rfl ?_
          refine nk_iconst (v := 0) dX8_join_156 (by decide) ?_
          refine nk_iload dX8_join_157 rfl ?_
          refine nk_cVi kX8_168 (s_X8_keysOf hi (base := 0) (s := j3) (by omega)) dX8_join_159 mh_0 rfl rfl (by decide) (Nat.le_of_ble_eq_true rfl) ?_
          refine nk_ireturn dX8_join_162 rfl ?_
          exact ⟨rfl, rfl⟩
        · skip
          try simp only [nk_b0, Int32.toInt_toInt64, Classical.not_not, nk_l0, nk_l1, nk_l2, nk_l60] at h34
          refine nk_ldc qX8_49 dX8_join_37 ?_
          refine nk_ireturn dX8_join_39 rfl ?_
          have cc : ¬ c_join m x s1 s2 s3 := fun z => by
            first
            | exact h9 z.1
            | exact h17 z.2.1
            | exact h25 z.2.2.1
            | exact h34 z.2.2.2
          exact ⟨by unfold sp_join; rw [if_neg cc], by unfold g_A g_I; rw [if_neg cc, if_neg cc]⟩
set_option maxRecDepth 20000 in
theorem l_X8_shift1 {G : nk_EG} {ad : Nat → Nat} {A : Nat → Nat → Int32} {I : Nat → Int32} (hi : mInj ad) {F : Nat → Int32} {v : Int32} {j : Nat} {Φ : Option Value → nk_AH → Prop} (hj : j < 4) (kk : ∀ l3 : Option Value, nk_J G mX8_shift 4 Φ 0 0 66 [some (.ref (ad 0)), some (.int (nI j)), some (.int v), l3] [] (mh ad (va_up A 0 (pf_zf F (6 + 32 * j) 32)) I)) : ∀ (n : Nat) (k : Nat) (h1 : k ≤ 32) (h2 : 32 < k + n), nk_J G mX8_shift 4 (Φ) 0 0 39 [some (.ref (ad 0)), some (.int (nI j)), some (.int v), some (.int (nI k))] [] (mh ad (va_up A 0 (pf_zf F (6 + 32 * j) k)) I) := by
  intro n
  induction n with
  | zero => intro k h1 h2; omega
  | succ n ih =>
    intro k h1 h2
    refine nk_iload_n (i := 3) dX8_shift_39 rfl rfl ?_
    refine nk_bipush (v := 32) dX8_shift_40 (by decide) ?_
    refine nk_icmpge (tgt := 66) dX8_shift_42 (by decide) (fun h42 => ?_) (fun h42 => ?_)
    · skip
      have e2 : k = 32 := Nat.le_antisymm h1 (nk_leI (a := 32) h42 (by omega) (by omega))
      subst e2
      exact kk _
    · skip
      have hk := nk_nleI (a := 32) h42 (by omega) (by omega)
      refine nk_aload_n (i := 0) dX8_shift_45 rfl rfl ?_
      refine nk_getf fX8_7 dX8_shift_46 mh_0 rfl ?_
      refine nk_bipush (v := 6) dX8_shift_49 (by decide) ?_
      refine nk_bipush (v := 32) dX8_shift_51 (by decide) ?_
      refine nk_iload_n (i := 1) dX8_shift_53 rfl rfl ?_
      refine nk_imul dX8_shift_54 ?_
      refine nk_iadd dX8_shift_55 ?_
      refine nk_iload_n (i := 3) dX8_shift_56 rfl rfl ?_
      refine nk_iadd dX8_shift_57 ?_
      refine nk_iconst (v := 0) dX8_shift_58 (by decide) ?_
      refine nk_iastN (j := 6 + 32 * j + k) dX8_shift_59 (mh_1 hi) (nk_ixw1 j k) (by omega) (by decide) ?_
      refine nk_J.to ?_ rfl rfl (mu_A0 hi)
      refine nk_iincT dX8_shift_60 rfl (nk_i1 k) (by decide) ?_
      refine nk_goto (tgt := 39) dX8_shift_63 (by decide) ?_
      exact (ih (k + 1) (by omega) (by omega)).to rfl rfl (by rw [bx_uu]; exact congrArg (fun z => mh ad (va_up A 0 z) I) (pf_zf_s F (6 + 32 * j) k))
set_option maxRecDepth 20000 in
theorem l_X8_shift2 {G : nk_EG} {ad : Nat → Nat} {A : Nat → Nat → Int32} {I : Nat → Int32} (hi : mInj ad) {F : Nat → Int32} {v : Int32} {m b j : Nat} {Φ : Option Value → nk_AH → Prop} (hm : mSh F 0 m b) (hj : j < 4) (hv : -9999 ≤ v.toInt ∧ v.toInt ≤ 9999) (kk : ∀ l3 : Option Value, nk_J G mX8_shift 4 Φ 0 0 114 [some (.ref (ad 0)), some (.int (nI j)), some (.int v), l3] [] (mh ad (va_up A 0 (a_sf F j (nk_tp b) v.toInt (nk_tp b))) I)) : ∀ (n : Nat) (k : Nat) (h1 : k ≤ nk_tp b) (h2 : nk_tp b < k + n), nk_J G mX8_shift 4 (Φ) 0 0 68 [some (.ref (ad 0)), some (.int (nI j)), some (.int v), some (.int (nI k))] [] (mh ad (va_up A 0 (a_sf F j (nk_tp b) v.toInt k)) I) := by
  intro n
  induction n with
  | zero => intro k h1 h2; omega
  | succ n ih =>
    intro k h1 h2
    have h4 := hm.2.2.1
    have h10 := hm.2.2.2
    have ht := nk_tp_le h10
    have hmk : mSh (a_sf F j (nk_tp b) v.toInt k) 0 m b := mSh_lo hm (fun j hj => a_sf_lo (by omega) k)
    refine nk_iload_n (i := 3) dX8_shift_68 rfl rfl ?_
    refine nk_aload_n (i := 0) dX8_shift_69 rfl rfl ?_
    refine nk_cVi kX8_127 (s_X8_top hi (A := va_up A 0 (a_sf F j (nk_tp b) v.toInt k)) hmk.2.1 hmk.2.2.2) dX8_shift_70 mh_0 rfl rfl (by decide) (Nat.le_of_ble_eq_true rfl) ?_
    refine nk_icmpge (tgt := 114) dX8_shift_73 (by decide) (fun h73 => ?_) (fun h73 => ?_)
    · skip
      have e2 : k = nk_tp b := Nat.le_antisymm h1 (nk_leI h73 (by omega) (by omega))
      subst e2
      exact kk _
    · skip
      have hk := nk_nleI (a := nk_tp b) h73 (by omega) (by omega)
      refine nk_aload_n (i := 0) dX8_shift_76 rfl rfl ?_
      refine nk_sipush (v := 3618) dX8_shift_77 (by decide) ?_
      refine nk_iload_n (i := 1) dX8_shift_80 rfl rfl ?_
      refine nk_iload_n (i := 3) dX8_shift_81 rfl rfl ?_
      refine nk_cVi kX8_137 (s_X8_hasKey hi (base := 3618) (s := j) (k := k) (by omega) (by omega)) dX8_shift_82 mh_0 rfl rfl (by decide) (Nat.le_of_ble_eq_true rfl) ?_
      refine nk_ifeq (tgt := 108) dX8_shift_85 (by decide) (fun h85 => ?_) (fun h85 => ?_)
      · skip
        simp only [nk_b0, Classical.not_not] at h85
        refine nk_iincT dX8_shift_108 rfl (nk_i1 k) (by decide) ?_
        refine nk_goto (tgt := 68) dX8_shift_111 (by decide) ?_
        first
        | (have c : nk_mem (a_sf F j (nk_tp b) v.toInt k) 3618 j k = true ∧ 0 ≤ (k : Int) + v.toInt ∧ (k : Int) + v.toInt < nk_tp b := ⟨h85, h96⟩
           exact (ih (k + 1) (by omega) (by omega)).to rfl rfl (by rw [bx_uu, a_sf, if_pos c]; rfl))
        | (have c : ¬ (nk_mem (a_sf F j (nk_tp b) v.toInt k) 3618 j k = true ∧ 0 ≤ (k : Int) + v.toInt ∧ (k : Int) + v.toInt < nk_tp b) := fun z => absurd z.1 h85
           exact (ih (k + 1) (by omega) (by omega)).to rfl rfl (by rw [a_sf, if_neg c]))
        | (have c : ¬ (nk_mem (a_sf F j (nk_tp b) v.toInt k) 3618 j k = true ∧ 0 ≤ (k : Int) + v.toInt ∧ (k : Int) + v.toInt < nk_tp b) := fun z => h96 z.2
           exact (ih (k + 1) (by omega) (by omega)).to rfl rfl (by rw [a_sf, if_neg c]))
      · skip
        simp only [nk_b0, Classical.not_not] at h85
        refine nk_aload_n (i := 0) dX8_shift_88 rfl rfl ?_
        refine nk_iload_n (i := 3) dX8_shift_89 rfl rfl ?_
        refine nk_iload_n (i := 2) dX8_shift_90 rfl rfl ?_
        refine nk_iadd dX8_shift_91 ?_
        refine nk_i2l dX8_shift_92 ?_
        refine nk_cVi kX8_157 (s_X8_isKey hi (A := va_up A 0 (a_sf F j (nk_tp b) v.toInt k)) hmk.2.1 hmk.2.2.2) dX8_shift_93 mh_0 rfl rfl (by decide) (Nat.le_of_ble_eq_true rfl) ?_
        refine nk_ifeq (tgt := 108) dX8_shift_96 (by decide) (fun h96 => ?_) (fun h96 => ?_)
        · skip
          simp only [nk_b0, Int32.toInt_toInt64, Classical.not_not] at h96; rw [nk_addv (by omega) hv] at h96
          refine nk_iincT dX8_shift_108 rfl (nk_i1 k) (by decide) ?_
          refine nk_goto (tgt := 68) dX8_shift_111 (by decide) ?_
          first
          | (have c : nk_mem (a_sf F j (nk_tp b) v.toInt k) 3618 j k = true ∧ 0 ≤ (k : Int) + v.toInt ∧ (k : Int) + v.toInt < nk_tp b := ⟨h85, h96⟩
             exact (ih (k + 1) (by omega) (by omega)).to rfl rfl (by rw [bx_uu, a_sf, if_pos c]; rfl))
          | (have c : ¬ (nk_mem (a_sf F j (nk_tp b) v.toInt k) 3618 j k = true ∧ 0 ≤ (k : Int) + v.toInt ∧ (k : Int) + v.toInt < nk_tp b) := fun z => absurd z.1 h85
             exact (ih (k + 1) (by omega) (by omega)).to rfl rfl (by rw [a_sf, if_neg c]))
          | (have c : ¬ (nk_mem (a_sf F j (nk_tp b) v.toInt k) 3618 j k = true ∧ 0 ≤ (k : Int) + v.toInt ∧ (k : Int) + v.toInt < nk_tp b) := fun z => h96 z.2
             exact (ih (k + 1) (by omega) (by omega)).to rfl rfl (by rw [a_sf, if_neg c]))
        · skip
          simp only [nk_b0, Int32.toInt_toInt64, Classical.not_not] at h96; rw [nk_addv (by omega) hv] at h96
          refine nk_aload_n (i := 0) dX8_shift_99 rfl rfl ?_
          refine nk_iconst (v := 0) dX8_shift_100 (by decide) ?_
          refine nk_iload_n (i := 1) dX8_shift_101 rfl rfl ?_
          refine nk_iload_n (i := 3) dX8_shift_102 rfl rfl ?_
          refine nk_iload_n (i := 2) dX8_shift_103 rfl rfl ?_
          refine nk_iadd dX8_shift_104 ?_
          refine nk_top (y := nI ((k : Int) + v.toInt).toNat) (by rw [fa_eq, nk_addv (by omega) hv, nI_toInt (by omega)]; omega) ?_
          refine nk_cVv kX8_164 (s_X8_turnKey hi (base := 0) (s := j) (k := ((k : Int) + v.toInt).toNat) (by omega) (by omega)) dX8_shift_105 mh_0 rfl rfl (by decide) (Nat.le_of_ble_eq_true rfl) ?_
          refine nk_iincT dX8_shift_108 rfl (nk_i1 k) (by decide) ?_
          refine nk_goto (tgt := 68) dX8_shift_111 (by decide) ?_
          first
          | (have c : nk_mem (a_sf F j (nk_tp b) v.toInt k) 3618 j k = true ∧ 0 ≤ (k : Int) + v.toInt ∧ (k : Int) + v.toInt < nk_tp b := ⟨h85, h96⟩
             exact (ih (k + 1) (by omega) (by omega)).to rfl rfl (by rw [bx_uu, a_sf, if_pos c]; rfl))
          | (have c : ¬ (nk_mem (a_sf F j (nk_tp b) v.toInt k) 3618 j k = true ∧ 0 ≤ (k : Int) + v.toInt ∧ (k : Int) + v.toInt < nk_tp b) := fun z => absurd z.1 h85
             exact (ih (k + 1) (by omega) (by omega)).to rfl rfl (by rw [a_sf, if_neg c]))
          | (have c : ¬ (nk_mem (a_sf F j (nk_tp b) v.toInt k) 3618 j k = true ∧ 0 ≤ (k : Int) + v.toInt ∧ (k : Int) + v.toInt < nk_tp b) := fun z => h96 z.2
             exact (ih (k + 1) (by omega) (by omega)).to rfl rfl (by rw [a_sf, if_neg c]))
set_option maxRecDepth 20000 in
theorem s_X8_shift {G : nk_EG} {ad : Nat → Nat} {A : Nat → Nat → Int32} {I : Nat → Int32} (hi : mInj ad) {m b : Nat} (hm : mSh (A 0) 0 m b) {u : Nat} (hu : I 0 = nI u) (hu24 : u ≤ 24) {s v : Int32} : nk_Si G mX8_shift 4 [.ref (ad 0), .int s, .int v] (mh ad A I) (sp_shift A u m b s v) (mh ad (g_A (c_shift m s v) A (a_sft (a_kp (A 0) u) (sp_n s) (nk_tp b) v.toInt)) (g_I (c_shift m s v) I u)) := by
  have h4 := hm.2.2.1
  have h10 := hm.2.2.2
  have ht := nk_tp_le h10
  refine nk_S.of (by decide +kernel) (Nat.le_of_ble_eq_true rfl) rfl ?_
  refine nk_aload_n (i := 0) dX8_shift_0 rfl rfl ?_
  refine nk_iload_n (i := 1) dX8_shift_1 rfl rfl ?_
  refine nk_cVi kX8_154 (s_X8_isSet hi hm.1 hm.2.2.1) dX8_shift_2 mh_0 rfl rfl (by decide) (Nat.le_of_ble_eq_true rfl) ?_
  refine nk_ifeq (tgt := 22) dX8_shift_5 (by decide) (fun h5 => ?_) (fun h5 => ?_)
  · skip
    try simp only [nk_b0, Int32.toInt_toInt64, Classical.not_not, nk_l0, nk_l1, nk_l2, nk_l60] at h5
    refine nk_ldc qX8_49 dX8_shift_22 ?_
    refine nk_ireturn dX8_shift_24 rfl ?_
    have cc : ¬ c_shift m s v := fun z => by
      first
      | exact h5 z.1
      | exact h19 z.2
    exact ⟨by unfold sp_shift; rw [if_neg cc], by unfold g_A g_I; rw [if_neg cc, if_neg cc]⟩
  · skip
    try simp only [nk_b0, Int32.toInt_toInt64, Classical.not_not, nk_l0, nk_l1, nk_l2, nk_l60] at h5
    refine nk_iload_n (i := 2) dX8_shift_8 rfl rfl ?_
    refine nk_i2l dX8_shift_9 ?_
    refine nk_ldc2 qX8_177 dX8_shift_10 ?_
    refine nk_ldc2 qX8_179 dX8_shift_13 ?_
    refine nk_cSi kX8_39 (s_X8_in) dX8_shift_16 rfl rfl (by decide) (Nat.le_of_ble_eq_true rfl) ?_
    refine nk_ifne (tgt := 25) dX8_shift_19 (by decide) (fun h19 => ?_) (fun h19 => ?_)
    · skip
      try simp only [nk_b0, Int32.toInt_toInt64, Classical.not_not, nk_l0, nk_l1, nk_l2, nk_l3, nk_l9, nk_l9m, nk_l40] at h19
      obtain ⟨j, hj, rfl⟩ := nk_getN h5
      have cc : c_shift m (nI j) v := ⟨h5, h19⟩
      unfold sp_shift g_A g_I
      rw [if_pos cc, if_pos cc, if_pos cc, sp_n_nI (by omega)]
      refine nk_aload_n (i := 0) dX8_shift_25 rfl rfl ?_
      refine nk_cVv kX8_161 (s_X8_keepPast hi hu hu24) dX8_shift_26 mh_0 rfl rfl (by decide) (Nat.le_of_ble_eq_true rfl) ?_
      refine nk_aload_n (i := 0) dX8_shift_29 rfl rfl ?_
      refine nk_iconst (v := 0) dX8_shift_30 (by decide) ?_
      refine nk_sipush (v := 3618) dX8_shift_31 (by decide) ?_
      refine nk_cVv kX8_117 (s_X8_copyShelf hi (a := 0) (b := 3618) (by omega) (by omega) (by omega)) dX8_shift_34 mh_0 rfl rfl (by decide) (Nat.le_of_ble_eq_true rfl) ?_
      refine nk_iconst (v := 0) dX8_shift_37 (by decide) ?_
      refine nk_istore_nT (i := 3) dX8_shift_38 rfl (by decide) ?_
      refine (l_X8_shift1 (A := A) (F := va_cpy (a_kp (A 0) u) (a_kp (A 0) u) 0 3618 134) hi (by omega) (fun l3 => ?_) 33 0 (by omega) (by omega)).to rfl rfl (by rw [pf_zf_0, bx_uu]; rfl)
      refine nk_iconst (v := 0) dX8_shift_66 (by decide) ?_
      refine nk_istore_nT (i := 3) dX8_shift_67 rfl (by decide) ?_
      have hm2 : mSh (pf_zf (va_cpy (a_kp (A 0) u) (a_kp (A 0) u) 0 3618 134) (6 + 32 * j) 32) 0 m b := mSh_lo hm (fun q hq => by rw [nk_zf_lo (by omega), va_cpy_out (by omega), a_kp_lo (by omega)])
      refine l_X8_shift2 hi hm2 (by omega) h19 (fun l3 => ?_) (nk_tp b + 1) 0 (Nat.zero_le _) (by omega)
      refine nk_aload_n (i := 0) dX8_shift_114 rfl rfl ?_
      refine nk_iconst (v := 0) dX8_shift_115 (by decide) ?_
      refine nk_iload_n (i := 1) dX8_shift_116 rfl rfl ?_
      refine nk_cVi kX8_168 (s_X8_keysOf hi (base := 0) (s := j) (by omega)) dX8_shift_117 mh_0 rfl rfl (by decide) (Nat.le_of_ble_eq_true rfl) ?_
      refine nk_ireturn dX8_shift_120 rfl ?_
      exact ⟨rfl, rfl⟩
    · skip
      try simp only [nk_b0, Int32.toInt_toInt64, Classical.not_not, nk_l0, nk_l1, nk_l2, nk_l3, nk_l9, nk_l9m, nk_l40] at h19
      refine nk_ldc qX8_49 dX8_shift_22 ?_
      refine nk_ireturn dX8_shift_24 rfl ?_
      have cc : ¬ c_shift m s v := fun z => by
        first
        | exact h5 z.1
        | exact h19 z.2
      exact ⟨by unfold sp_shift; rw [if_neg cc], by unfold g_A g_I; rw [if_neg cc, if_neg cc]⟩

/-! the reference: floats, chances -/
set_option maxRecDepth 20000 in
theorem t_floatOf {G : nk_EG} {H : nk_AH} {a b k : Nat} {l9 : Option Value} {qq o v : Nat} (hk : k ≤ 40) (ho : o ≤ 1) (h1 : 8388608 ≤ qq) (h2 : qq < 16777216) (hv : (149 - k) * 8388608 + (qq + o) = v) : nk_J G mX8_floatOf 1 (nk_ri (nI v) H) 0 0 114 [some (.int (nI a)), some (.int (nI b)), some (.long (lN (a * 2 ^ k))), none, some (.long (lN b)), none, some (.int (pw k)), some (.long (lN qq)), none, l9, none, none] [.long (lN o), .long (lN qq)] H := by
  refine nk_ladd dX8_floatOf_114 ?_
  refine nk_topl (y := lN (qq + o)) (lN_add _ _) ?_
  refine nk_lstoreT dX8_floatOf_115 (by decide) ?_
  refine nk_lload dX8_floatOf_117 rfl ?_
  refine nk_ldc2 qX8_273 dX8_floatOf_119 ?_
  refine nk_lcmp dX8_floatOf_122 ?_
  refine nk_ifne (tgt := 130) dX8_floatOf_123 (by decide) (fun h123 => ?_) (fun h123 => ?_)
  · skip
    rw [lg_cmp_eq, show (16777216 : Int64) = lN 16777216 from rfl, pk_lEQ (by omega) (by omega)] at h123
    refine nk_iconst (v := 0) dX8_floatOf_130 (by decide) ?_
    refine nk_istoreT dX8_floatOf_131 (by decide) ?_
    refine nk_iload dX8_floatOf_133 rfl ?_
    refine nk_iload dX8_floatOf_135 rfl ?_
    refine nk_ifeq (tgt := 144) dX8_floatOf_137 (by decide) (fun _ => ?_) (fun h137 => by first | exact absurd (rfl) h137 | exact absurd h137 (rfl))
    refine nk_iconst (v := 0) dX8_floatOf_144 (by decide) ?_
    refine nk_iadd dX8_floatOf_145 ?_
    refine nk_istoreT dX8_floatOf_146 (by decide) ?_
    refine nk_iload dX8_floatOf_148 rfl ?_
    refine nk_sipush (v := 150) dX8_floatOf_150 (by decide) ?_
    refine nk_iadd dX8_floatOf_153 ?_
    refine nk_top (y := nI (150 - k)) (pw_0 k (by omega)) ?_
    refine nk_bipush (v := 23) dX8_floatOf_154 (by decide) ?_
    refine nk_ishl dX8_floatOf_156 ?_
    refine nk_top (y := nI ((150 - k) * 8388608)) (nk_s23 _ (by omega)) ?_
    refine nk_iload dX8_floatOf_157 rfl ?_
    refine nk_ifeq (tgt := 166) dX8_floatOf_159 (by decide) (fun _ => ?_) (fun h159 => by first | exact absurd (rfl) h159 | exact absurd h159 (rfl))
    refine nk_lload dX8_floatOf_166 rfl ?_
    refine nk_ldc2 qX8_271 dX8_floatOf_168 ?_
    refine nk_lsub dX8_floatOf_171 ?_
    refine nk_topl (y := lN (qq + o - 8388608)) (by rw [show (8388608 : Int64) = lN 8388608 from rfl]; exact lN_sub (by omega)) ?_
    refine nk_l2i dX8_floatOf_172 ?_
    refine nk_top (y := nI (qq + o - 8388608)) (lN_i _) ?_
    refine nk_iadd dX8_floatOf_173 ?_
    refine nk_ireturn dX8_floatOf_174 rfl ?_
    have e : (150 - k) * 8388608 + (qq + o - 8388608) = v := fl_e0 hk h1 hv
    exact ⟨by rw [nI_add, e], rfl⟩
  · skip
    rw [lg_cmp_eq, show (16777216 : Int64) = lN 16777216 from rfl, pk_lEQ (by omega) (by omega)] at h123
    refine nk_iconst (v := 1) dX8_floatOf_126 (by decide) ?_
    refine nk_goto (tgt := 131) dX8_floatOf_127 (by decide) ?_
    refine nk_istoreT dX8_floatOf_131 (by decide) ?_
    refine nk_iload dX8_floatOf_133 rfl ?_
    refine nk_iload dX8_floatOf_135 rfl ?_
    refine nk_ifeq (tgt := 144) dX8_floatOf_137 (by decide) (fun h137 => by first | exact absurd h137 (by decide) | exact absurd (by decide) h137) (fun _ => ?_)
    refine nk_iconst (v := 1) dX8_floatOf_140 (by decide) ?_
    refine nk_goto (tgt := 145) dX8_floatOf_141 (by decide) ?_
    refine nk_iadd dX8_floatOf_145 ?_
    refine nk_istoreT dX8_floatOf_146 (by decide) ?_
    refine nk_iload dX8_floatOf_148 rfl ?_
    refine nk_sipush (v := 150) dX8_floatOf_150 (by decide) ?_
    refine nk_iadd dX8_floatOf_153 ?_
    refine nk_top (y := nI (151 - k)) (pw_1 k (by omega)) ?_
    refine nk_bipush (v := 23) dX8_floatOf_154 (by decide) ?_
    refine nk_ishl dX8_floatOf_156 ?_
    refine nk_top (y := nI ((151 - k) * 8388608)) (nk_s23 _ (by omega)) ?_
    refine nk_iload dX8_floatOf_157 rfl ?_
    refine nk_ifeq (tgt := 166) dX8_floatOf_159 (by decide) (fun h159 => by first | exact absurd h159 (by decide) | exact absurd (by decide) h159) (fun _ => ?_)
    refine nk_lconst (v := 0) dX8_floatOf_162 rfl ?_
    refine nk_goto (tgt := 172) dX8_floatOf_163 (by decide) ?_
    refine nk_l2i dX8_floatOf_172 ?_
    refine nk_top (y := nI 0) (rfl) ?_
    refine nk_iadd dX8_floatOf_173 ?_
    refine nk_ireturn dX8_floatOf_174 rfl ?_
    have e : (151 - k) * 8388608 + 0 = v := fl_e1 hk h123 hv
    exact ⟨by rw [nI_add, e], rfl⟩
set_option maxRecDepth 20000 in
theorem l_floatOf {G : nk_EG} {H : nk_AH} {a b : Nat} (ha : 0 < a) (ha2 : a < 2 ^ 21) (hb : 0 < b) (hb2 : b ≤ 1024) : ∀ (n : Nat) (k : Nat) (h1 : k ≤ 33) (h2 : 33 < k + n) (h3 : ∀ j, j < k → a * 2 ^ j < b * 2 ^ 23), nk_J G mX8_floatOf 1 (nk_ri (nI (fl a b)) H) 0 0 16 [some (.int (nI a)), some (.int (nI b)), some (.long (lN (a * 2 ^ k))), none, some (.long (lN b)), none, some (.int (pw k)), none, none, none, none, none] [] H := by
  intro n
  induction n with
  | zero => intro k h1 h2 h3; omega
  | succ n ih =>
    intro k h1 h2 h3
    have hp : 2 ^ k ≤ 2 ^ 33 := Nat.pow_le_pow_right (by omega) h1
    have hle : a * 2 ^ k ≤ 2 ^ 21 * 2 ^ 33 := Nat.mul_le_mul (by omega) hp
    have hdl : a * 2 ^ k / b ≤ a * 2 ^ k := Nat.div_le_self _ _
    have hs : a * 2 ^ k * 2 = a * 2 ^ (k + 1) := by rw [Nat.pow_succ, Nat.mul_assoc]
    refine nk_lload_n (i := 2) dX8_floatOf_16 rfl rfl ?_
    refine nk_lload dX8_floatOf_17 rfl ?_
    refine nk_ldiv dX8_floatOf_19 (nk_lne hb (by omega)) ?_
    refine nk_topl (y := lN (a * 2 ^ k / b)) (pk_lDiv (by omega) hb (by omega)) ?_
    refine nk_ldc2 qX8_271 dX8_floatOf_20 ?_
    refine nk_lcmp dX8_floatOf_23 ?_
    refine nk_ifge (tgt := 39) dX8_floatOf_24 (by decide) (fun h24 => ?_) (fun h24 => ?_)
    · skip
      rw [lg_cmp_ge, show (8388608 : Int64) = lN 8388608 from rfl, pk_lLE (by omega) (by omega)] at h24
      have hge : b * 2 ^ 23 ≤ a * 2 ^ k := by
        have := (Nat.le_div_iff_mul_le hb).mp h24
        omega
      have hk0 : k ≠ 0 := fun e => by subst e; omega
      have h5 := h3 (k - 1) (by omega)
      have h6 : a * 2 ^ k = 2 * (a * 2 ^ (k - 1)) := by
        have e : k = k - 1 + 1 := by omega
        rw [e, Nat.pow_succ, Nat.add_sub_cancel]; ac_rfl
      have hq2 : a * 2 ^ k / b < 16777216 := (Nat.div_lt_iff_lt_mul hb).mpr (by omega)
      have hfl : fl a b = fl_v a b k := by unfold fl; rw [if_neg (by omega), fl_i_eq hge h3 (by omega)]
      have hr := Nat.mod_lt (a * 2 ^ k) hb
      rw [hfl]
      refine nk_lload_n (i := 2) dX8_floatOf_39 rfl rfl ?_
      refine nk_lload dX8_floatOf_40 rfl ?_
      refine nk_ldiv dX8_floatOf_42 (nk_lne hb (by omega)) ?_
      refine nk_topl (y := lN (a * 2 ^ k / b)) (pk_lDiv (by omega) hb (by omega)) ?_
      refine nk_ldc2 qX8_273 dX8_floatOf_43 ?_
      refine nk_lcmp dX8_floatOf_46 ?_
      refine nk_iflt (tgt := 64) dX8_floatOf_47 (by decide) (fun _ => ?_) (fun h47 => by first | exact absurd ((lg_cmp_lt _ _).mpr ((pk_lLT (b := 16777216) (by omega) (by omega)).mpr hq2)) h47 | exact absurd h47 ((lg_cmp_lt _ _).mpr ((pk_lLT (b := 16777216) (by omega) (by omega)).mpr hq2)))
      refine nk_lload_n (i := 2) dX8_floatOf_64 rfl rfl ?_
      refine nk_lload dX8_floatOf_65 rfl ?_
      refine nk_ldiv dX8_floatOf_67 (nk_lne hb (by omega)) ?_
      refine nk_topl (y := lN (a * 2 ^ k / b)) (pk_lDiv (by omega) hb (by omega)) ?_
      refine nk_lstoreT dX8_floatOf_68 (by decide) ?_
      refine nk_ldc2 qX8_47 dX8_floatOf_70 ?_
      refine nk_lload_n (i := 2) dX8_floatOf_73 rfl rfl ?_
      refine nk_lload dX8_floatOf_74 rfl ?_
      refine nk_lrem dX8_floatOf_76 (nk_lne hb (by omega)) ?_
      refine nk_topl (y := lN (a * 2 ^ k % b)) (pk_lRem (by omega) hb (by omega)) ?_
      refine nk_lmul dX8_floatOf_77 ?_
      refine nk_topl (y := lN (2 * (a * 2 ^ k % b))) (lN_mul 2 _) ?_
      refine nk_lstoreT dX8_floatOf_78 (by decide) ?_
      refine nk_lload dX8_floatOf_80 rfl ?_
      refine nk_lload dX8_floatOf_82 rfl ?_
      refine nk_lload dX8_floatOf_84 rfl ?_
      refine nk_lcmp dX8_floatOf_86 ?_
      refine nk_ifgt (tgt := 109) dX8_floatOf_87 (by decide) (fun h87 => ?_) (fun h87 => ?_)
      · skip
        rw [lg_cmp_gt, pk_lLT (by omega) (by omega)] at h87
        have c : fl_r a b k = 1 := by unfold fl_r; rw [if_pos]; omega
        refine nk_lconst (v := 1) dX8_floatOf_109 rfl ?_
        refine nk_goto (tgt := 114) dX8_floatOf_110 (by decide) ?_
        first
        | exact t_floatOf (o := 1) (by omega) (by omega) (by omega) (by omega) (by unfold fl_v; rw [c])
        | exact t_floatOf (o := 0) (by omega) (by omega) (by omega) (by omega) (by unfold fl_v; rw [c])
      · skip
        rw [lg_cmp_gt, pk_lLT (by omega) (by omega)] at h87
        refine nk_lload dX8_floatOf_90 rfl ?_
        refine nk_lload dX8_floatOf_92 rfl ?_
        refine nk_lcmp dX8_floatOf_94 ?_
        refine nk_ifne (tgt := 113) dX8_floatOf_95 (by decide) (fun h95 => ?_) (fun h95 => ?_)
        · skip
          rw [lg_cmp_eq, pk_lEQ (by omega) (by omega)] at h95
          have c : fl_r a b k = 0 := by unfold fl_r; rw [if_neg]; omega
          refine nk_lconst (v := 0) dX8_floatOf_113 rfl ?_
          first
          | exact t_floatOf (o := 1) (by omega) (by omega) (by omega) (by omega) (by unfold fl_v; rw [c])
          | exact t_floatOf (o := 0) (by omega) (by omega) (by omega) (by omega) (by unfold fl_v; rw [c])
        · skip
          rw [lg_cmp_eq, pk_lEQ (by omega) (by omega)] at h95
          refine nk_lload dX8_floatOf_98 rfl ?_
          refine nk_ldc2 qX8_47 dX8_floatOf_100 ?_
          refine nk_lrem dX8_floatOf_103 (by decide) ?_
          refine nk_topl (y := lN (a * 2 ^ k / b % 2)) (pk_lRem (b := 2) (by omega) (by omega) (by omega)) ?_
          refine nk_lconst (v := 1) dX8_floatOf_104 rfl ?_
          refine nk_lcmp dX8_floatOf_105 ?_
          refine nk_ifne (tgt := 113) dX8_floatOf_106 (by decide) (fun h106 => ?_) (fun h106 => ?_)
          · skip
            rw [lg_cmp_eq, show (1 : Int64) = lN 1 from rfl, pk_lEQ (by omega) (by omega)] at h106
            have c : fl_r a b k = 0 := by unfold fl_r; rw [if_neg]; omega
            refine nk_lconst (v := 0) dX8_floatOf_113 rfl ?_
            first
            | exact t_floatOf (o := 1) (by omega) (by omega) (by omega) (by omega) (by unfold fl_v; rw [c])
            | exact t_floatOf (o := 0) (by omega) (by omega) (by omega) (by omega) (by unfold fl_v; rw [c])
          · skip
            rw [lg_cmp_eq, show (1 : Int64) = lN 1 from rfl, pk_lEQ (by omega) (by omega)] at h106
            have c : fl_r a b k = 1 := by unfold fl_r; rw [if_pos]; omega
            refine nk_lconst (v := 1) dX8_floatOf_109 rfl ?_
            refine nk_goto (tgt := 114) dX8_floatOf_110 (by decide) ?_
            first
            | exact t_floatOf (o := 1) (by omega) (by omega) (by omega) (by omega) (by unfold fl_v; rw [c])
            | exact t_floatOf (o := 0) (by omega) (by omega) (by omega) (by omega) (by unfold fl_v; rw [c])
    · skip
      rw [lg_cmp_ge, show (8388608 : Int64) = lN 8388608 from rfl, pk_lLE (by omega) (by omega)] at h24
      have hlt : a * 2 ^ k < b * 2 ^ 23 := by
        have := (Nat.div_lt_iff_lt_mul hb).mp (show a * 2 ^ k / b < 8388608 by omega)
        omega
      have hk33 : k ≠ 33 := fun e => by
        subst e
        have : 1 * 2 ^ 33 ≤ a * 2 ^ 33 := Nat.mul_le_mul_right _ ha
        omega
      refine nk_lload_n (i := 2) dX8_floatOf_27 rfl rfl ?_
      refine nk_ldc2 qX8_47 dX8_floatOf_28 ?_
      refine nk_lmul dX8_floatOf_31 ?_
      refine nk_topl (y := lN (a * 2 ^ (k + 1))) (by rw [show (2 : Int64) = lN 2 from rfl, lN_mul, hs]) ?_
      refine nk_lstore_nT (i := 2) dX8_floatOf_32 rfl (by decide) ?_
      refine nk_iincT dX8_floatOf_33 rfl (pw_s k) (by decide) ?_
      refine nk_goto (tgt := 16) dX8_floatOf_36 (by decide) ?_
      exact ih (k + 1) (by omega) (by omega) (fun j hj => by
        rcases Nat.eq_or_lt_of_le (Nat.le_of_lt_succ hj) with e | e
        · rw [e]; exact hlt
        · exact h3 j e)
set_option maxRecDepth 20000 in
theorem s_X8_floatOf {G : nk_EG} {H : nk_AH} {a b : Nat} (ha2 : a < 2 ^ 21) (hb : 0 < b) (hb2 : b ≤ 1024) : nk_Si G mX8_floatOf 1 [.int (nI a), .int (nI b)] H (nI (fl a b)) H := by
  refine nk_S.of (by decide +kernel) (Nat.le_of_ble_eq_true rfl) rfl ?_
  refine nk_iload_n (i := 0) dX8_floatOf_0 rfl rfl ?_
  refine nk_ifne (tgt := 6) dX8_floatOf_1 (by decide) (fun h1 => ?_) (fun h1 => ?_)
  · skip
    refine nk_iload_n (i := 0) dX8_floatOf_6 rfl rfl ?_
    refine nk_i2l dX8_floatOf_7 ?_
    refine nk_topl (y := lN a) (nI_l (by omega)) ?_
    refine nk_lstore_nT (i := 2) dX8_floatOf_8 rfl (by decide) ?_
    refine nk_iload_n (i := 1) dX8_floatOf_9 rfl rfl ?_
    refine nk_i2l dX8_floatOf_10 ?_
    refine nk_topl (y := lN b) (nI_l (by omega)) ?_
    refine nk_lstoreT dX8_floatOf_11 (by decide) ?_
    refine nk_iconst (v := 0) dX8_floatOf_13 (by decide) ?_
    refine nk_istoreT dX8_floatOf_14 (by decide) ?_
    have ha : 0 < a := Nat.pos_of_ne_zero (fun e => h1 (by rw [e]; rfl))
    exact (l_floatOf ha ha2 hb hb2 34 0 (by omega) (by omega) (fun j hj => by omega)).to (by rw [Nat.pow_zero, Nat.mul_one]; rfl) rfl rfl
  · skip
    refine nk_iconst (v := 0) dX8_floatOf_4 (by decide) ?_
    refine nk_ireturn dX8_floatOf_5 rfl ?_
    have ha : a = 0 := nk_eqI (b := 0) h1 (by omega) (by omega)
    subst ha
    exact ⟨rfl, rfl⟩
set_option maxRecDepth 20000 in
theorem s_X8_share {G : nk_EG} {ad : Nat → Nat} {A : Nat → Nat → Int32} {I : Nat → Int32} (hi : mInj ad) {m b : Nat} (hm : mSh (A 0) 0 m b) (h1b : 0 < m → 0 < b) {s x : Int32} : nk_Si G mX8_share 4 [.ref (ad 0), .int s, .int x] (mh ad A I) (sp_share m b (nk_mem (A 0) 0) s x) (mh ad A I) := by
  have h4 := hm.2.2.1
  have h10 := hm.2.2.2
  have ht := nk_tp_le h10
  refine nk_S.of (by decide +kernel) (Nat.le_of_ble_eq_true rfl) rfl ?_
  refine nk_aload_n (i := 0) dX8_share_0 rfl rfl ?_
  refine nk_iload_n (i := 1) dX8_share_1 rfl rfl ?_
  refine nk_cVi kX8_154 (s_X8_isSet hi hm.1 hm.2.2.1) dX8_share_2 mh_0 rfl rfl (by decide) (Nat.le_of_ble_eq_true rfl) ?_
  refine nk_ifeq (tgt := 20) dX8_share_5 (by decide) (fun h5 => ?_) (fun h5 => ?_)
  · skip
    try simp only [nk_b0, Int32.toInt_toInt64, Classical.not_not, nk_l0, nk_l1, nk_l2, nk_l60] at h5
    refine nk_ldc qX8_49 dX8_share_20 ?_
    refine nk_ireturn dX8_share_22 rfl ?_
    first
    | exact ⟨by unfold sp_share; rw [if_neg h5], rfl⟩
    | exact ⟨by unfold sp_share; rw [if_pos h5, if_neg h17], rfl⟩
  · skip
    try simp only [nk_b0, Int32.toInt_toInt64, Classical.not_not, nk_l0, nk_l1, nk_l2, nk_l60] at h5
    refine nk_iload_n (i := 2) dX8_share_8 rfl rfl ?_
    refine nk_i2l dX8_share_9 ?_
    refine nk_lconst (v := 0) dX8_share_10 rfl ?_
    refine nk_ldc2 qX8_47 dX8_share_11 ?_
    refine nk_cSi kX8_39 (s_X8_in) dX8_share_14 rfl rfl (by decide) (Nat.le_of_ble_eq_true rfl) ?_
    refine nk_ifne (tgt := 23) dX8_share_17 (by decide) (fun h17 => ?_) (fun h17 => ?_)
    · skip
      try simp only [nk_b0, Int32.toInt_toInt64, Classical.not_not, nk_l0, nk_l1, nk_l2, nk_l60] at h17
      obtain ⟨j, hj, rfl⟩ := nk_getN h5
      have hb0 := h1b (by omega)
      have htp : 0 < nk_tp b := by rw [nk_tp_pos hb0]; exact Nat.two_pow_pos b
      have hct := fb_ct_le (nk_mem (A 0) 0 j) 1024
      have hsm := sp_sum_le2 (nk_mem (A 0) 0 j) (nk_tp b) ht
      unfold sp_share
      rw [if_pos h5, if_pos h17, sp_n_nI (by omega)]
      refine nk_aload_n (i := 0) dX8_share_23 rfl rfl ?_
      refine nk_iconst (v := 0) dX8_share_24 (by decide) ?_
      refine nk_iload_n (i := 1) dX8_share_25 rfl rfl ?_
      refine nk_cVi kX8_168 (s_X8_keysOf hi (base := 0) (s := j) (by omega)) dX8_share_26 mh_0 rfl rfl (by decide) (Nat.le_of_ble_eq_true rfl) ?_
      refine nk_istore_nT (i := 3) dX8_share_29 rfl (by decide) ?_
      refine nk_iload_n (i := 2) dX8_share_30 rfl rfl ?_
      refine nk_ifne (tgt := 43) dX8_share_31 (by decide) (fun h31 => ?_) (fun h31 => ?_)
      · skip
        refine nk_iload_n (i := 3) dX8_share_43 rfl rfl ?_
        refine nk_ifne (tgt := 51) dX8_share_44 (by decide) (fun h44 => ?_) (fun h44 => ?_)
        · skip
          have hc0 : 0 < (fb_ct (nk_mem (A 0) 0 j) 1024) := Nat.pos_of_ne_zero (fun e => h44 (by rw [e]; rfl))
          refine nk_iload_n (i := 2) dX8_share_51 rfl rfl ?_
          refine nk_iconst (v := 1) dX8_share_52 (by decide) ?_
          refine nk_icmpne (tgt := 68) dX8_share_53 (by decide) (fun h53 => ?_) (fun h53 => ?_)
          · skip
            refine nk_aload_n (i := 0) dX8_share_68 rfl rfl ?_
            refine nk_iload_n (i := 1) dX8_share_69 rfl rfl ?_
            refine nk_cVi kX8_278 (s_X8_sumOf hi hm (by omega)) dX8_share_70 mh_0 rfl rfl (by decide) (Nat.le_of_ble_eq_true rfl) ?_
            refine nk_iload_n (i := 3) dX8_share_73 rfl rfl ?_
            refine nk_idiv dX8_share_74 (fun e => h44 e) ?_
            refine nk_ireturn dX8_share_75 rfl ?_
            first
            | (have c : (fb_ct (nk_mem (A 0) 0 j) 1024) = 0 := nk_ct0.mp h44
               exact ⟨by rw [if_neg h31, if_pos c], rfl⟩)
            | exact ⟨by rw [if_neg h31, if_neg (by omega), if_pos h53], rfl⟩
            | exact ⟨by rw [if_neg h31, if_neg (by omega), if_neg h53, pk_div (by omega) hc0 (by omega)], rfl⟩
          · skip
            refine nk_aload_n (i := 0) dX8_share_56 rfl rfl ?_
            refine nk_iload_n (i := 1) dX8_share_57 rfl rfl ?_
            refine nk_cVi kX8_278 (s_X8_sumOf hi hm (by omega)) dX8_share_58 mh_0 rfl rfl (by decide) (Nat.le_of_ble_eq_true rfl) ?_
            refine nk_iload_n (i := 3) dX8_share_61 rfl rfl ?_
            refine nk_cSi kX8_275 (s_X8_floatOf (by omega) (by omega) (by omega)) dX8_share_62 rfl rfl (by decide) (Nat.le_of_ble_eq_true rfl) ?_
            refine nk_goto (tgt := 75) dX8_share_65 (by decide) ?_
            refine nk_ireturn dX8_share_75 rfl ?_
            first
            | (have c : (fb_ct (nk_mem (A 0) 0 j) 1024) = 0 := nk_ct0.mp h44
               exact ⟨by rw [if_neg h31, if_pos c], rfl⟩)
            | exact ⟨by rw [if_neg h31, if_neg (by omega), if_pos h53], rfl⟩
            | exact ⟨by rw [if_neg h31, if_neg (by omega), if_neg h53, pk_div (by omega) hc0 (by omega)], rfl⟩
        · skip
          refine nk_iconst (v := 0) dX8_share_47 (by decide) ?_
          refine nk_goto (tgt := 75) dX8_share_48 (by decide) ?_
          refine nk_ireturn dX8_share_75 rfl ?_
          first
          | (have c : (fb_ct (nk_mem (A 0) 0 j) 1024) = 0 := nk_ct0.mp h44
             exact ⟨by rw [if_neg h31, if_pos c], rfl⟩)
          | exact ⟨by rw [if_neg h31, if_neg (by omega), if_pos h53], rfl⟩
          | exact ⟨by rw [if_neg h31, if_neg (by omega), if_neg h53, pk_div (by omega) hc0 (by omega)], rfl⟩
      · skip
        refine nk_iload_n (i := 3) dX8_share_34 rfl rfl ?_
        refine nk_aload_n (i := 0) dX8_share_35 rfl rfl ?_
        refine nk_cVi kX8_127 (s_X8_top hi hm.2.1 hm.2.2.2) dX8_share_36 mh_0 rfl rfl (by decide) (Nat.le_of_ble_eq_true rfl) ?_
        refine nk_cSi kX8_275 (s_X8_floatOf (by omega) (by omega) (by omega)) dX8_share_39 rfl rfl (by decide) (Nat.le_of_ble_eq_true rfl) ?_
        refine nk_ireturn dX8_share_42 rfl ?_
        exact ⟨by rw [if_pos h31], rfl⟩
    · skip
      try simp only [nk_b0, Int32.toInt_toInt64, Classical.not_not, nk_l0, nk_l1, nk_l2, nk_l60] at h17
      refine nk_ldc qX8_49 dX8_share_20 ?_
      refine nk_ireturn dX8_share_22 rfl ?_
      first
      | exact ⟨by unfold sp_share; rw [if_neg h5], rfl⟩
      | exact ⟨by unfold sp_share; rw [if_pos h5, if_neg h17], rfl⟩
set_option maxRecDepth 20000 in
theorem l_likelyC {G : nk_EG} {ad : Nat → Nat} {A : Nat → Nat → Int32} {I : Nat → Int32} {j k o pp nn : Nat} {x : Int32} {g : Nat} (hpp : pp ≤ 10) (hn : nn ≤ 16) (hg : Nat.gcd (lk_a pp nn) (lk_b nn) = g) {l6 : Option Value} : ∀ (n : Nat) (u v : Nat) (l15 : Option Value) (h1 : v < n) (h2 : u < 2 ^ 62) (h3 : v < 2 ^ 62) (h4 : Nat.gcd u v = g), nk_J G mX8_likely 4 (nk_rl (lk_v pp nn x) (mh ad A I)) 0 0 179 [some (.ref (ad 0)), some (.int (nI j)), some (.int (nI k)), some (.int (nI o)), some (.int (nI pp)), some (.int x), l6, some (.long (lN (lk_a pp nn))), none, some (.long (lN (lk_b nn))), none, some (.long (lN u)), none, some (.long (lN v)), none, l15, none] [] (mh ad A I) := by
  intro n
  induction n with
  | zero => intro u v l15 h1 h2 h3 h4; omega
  | succ n ih =>
    intro u v l15 h1 h2 h3 h4
    have hA := lk_a_le hpp hn
    have hB := lk_b_le hn
    refine nk_lload dX8_likely_179 rfl ?_
    refine nk_lconst (v := 0) dX8_likely_181 rfl ?_
    refine nk_lcmp dX8_likely_182 ?_
    refine nk_ifeq (tgt := 204) dX8_likely_183 (by decide) (fun h183 => ?_) (fun h183 => ?_)
    · skip
      rw [lg_cmp_eq, show (0 : Int64) = lN 0 from rfl, pk_lEQ (by omega) (by omega)] at h183
      subst h183
      rw [Nat.gcd_zero_right] at h4
      subst h4
      have hu : 0 < u := by rw [← hg]; exact Nat.gcd_pos_of_pos_right _ (lk_b_pos nn)
      refine nk_iload dX8_likely_204 rfl ?_
      refine nk_ifne (tgt := 217) dX8_likely_206 (by decide) (fun h206 => ?_) (fun h206 => ?_)
      · skip
        refine nk_lload dX8_likely_217 rfl ?_
        refine nk_lload dX8_likely_219 rfl ?_
        refine nk_ldiv dX8_likely_221 (nk_lne hu (by omega)) ?_
        refine nk_lreturn dX8_likely_222 rfl ?_
        first
        | exact ⟨by unfold lk_v; rw [if_pos h206, hg, pk_lDiv (by omega) hu (by omega)], rfl⟩
        | exact ⟨by unfold lk_v; rw [if_neg h206, hg, pk_lDiv (by omega) hu (by omega)], rfl⟩
      · skip
        refine nk_lload dX8_likely_209 rfl ?_
        refine nk_lload dX8_likely_211 rfl ?_
        refine nk_ldiv dX8_likely_213 (nk_lne hu (by omega)) ?_
        refine nk_goto (tgt := 222) dX8_likely_214 (by decide) ?_
        refine nk_lreturn dX8_likely_222 rfl ?_
        first
        | exact ⟨by unfold lk_v; rw [if_pos h206, hg, pk_lDiv (by omega) hu (by omega)], rfl⟩
        | exact ⟨by unfold lk_v; rw [if_neg h206, hg, pk_lDiv (by omega) hu (by omega)], rfl⟩
    · skip
      rw [lg_cmp_eq, show (0 : Int64) = lN 0 from rfl, pk_lEQ (by omega) (by omega)] at h183
      have hr := Nat.mod_lt u (show 0 < v by omega)
      refine nk_lload dX8_likely_186 rfl ?_
      refine nk_lload dX8_likely_188 rfl ?_
      refine nk_lrem dX8_likely_190 (nk_lne (by omega) (by omega)) ?_
      refine nk_topl (y := lN (u % v)) (pk_lRem (by omega) (by omega) (by omega)) ?_
      refine nk_lstoreT dX8_likely_191 (by decide) ?_
      refine nk_lload dX8_likely_193 rfl ?_
      refine nk_lstoreT dX8_likely_195 (by decide) ?_
      refine nk_lload dX8_likely_197 rfl ?_
      refine nk_lstoreT dX8_likely_199 (by decide) ?_
      refine nk_goto (tgt := 179) dX8_likely_201 (by decide) ?_
      exact ih v (u % v) _ (by omega) h3 (by omega) (by rw [← h4, Nat.gcd_comm u v]; exact (Nat.gcd_rec v u).symm ▸ (Nat.gcd_comm v (u % v)))
set_option maxRecDepth 20000 in
theorem l_likelyB {G : nk_EG} {ad : Nat → Nat} {A : Nat → Nat → Int32} {I : Nat → Int32} {j k o pp nn : Nat} {x : Int32} (hpp : pp ≤ 10) (hn : nn ≤ 16) : ∀ (n : Nat) (q : Nat) (h1 : q ≤ nn) (h2 : nn < q + n), nk_J G mX8_likely 4 (nk_rl (lk_v pp nn x) (mh ad A I)) 0 0 142 [some (.ref (ad 0)), some (.int (nI j)), some (.int (nI k)), some (.int (nI o)), some (.int (nI pp)), some (.int x), some (.int (nI nn)), some (.long (lN (lk_a pp q))), none, some (.long (lN (lk_b q))), none, some (.int (nI q)), none, none, none, none, none] [] (mh ad A I) := by
  intro n
  induction n with
  | zero => intro q h1 h2; omega
  | succ n ih =>
    intro q h1 h2
    refine nk_iload dX8_likely_142 rfl ?_
    refine nk_iload dX8_likely_144 rfl ?_
    refine nk_icmpge (tgt := 171) dX8_likely_146 (by decide) (fun h146 => ?_) (fun h146 => ?_)
    · skip
      refine nk_lload dX8_likely_171 rfl ?_
      refine nk_lstoreT dX8_likely_173 (by decide) ?_
      refine nk_lload dX8_likely_175 rfl ?_
      refine nk_lstoreT dX8_likely_177 (by decide) ?_
      have e2 : q = nn := Nat.le_antisymm h1 (nk_leI (a := nn) h146 (by omega) (by omega))
      subst e2
      have hA := lk_a_le hpp hn
      have hB := lk_b_le hn
      exact l_likelyC hpp hn rfl (lk_b q + 1) (lk_a pp q) (lk_b q) _ (by omega) (by omega) (by omega) rfl
    · skip
      have hk := nk_nleI (a := nn) h146 (by omega) (by omega)
      refine nk_lload dX8_likely_149 rfl ?_
      refine nk_iload dX8_likely_151 rfl ?_
      refine nk_i2l dX8_likely_153 ?_
      refine nk_topl (y := lN pp) (nI_l (by omega)) ?_
      refine nk_lmul dX8_likely_154 ?_
      refine nk_topl (y := lN (lk_a pp (q + 1))) (by rw [lN_mul, lk_a_s]) ?_
      refine nk_lstoreT dX8_likely_155 (by decide) ?_
      refine nk_lload dX8_likely_157 rfl ?_
      refine nk_ldc2 qX8_286 dX8_likely_159 ?_
      refine nk_lmul dX8_likely_162 ?_
      refine nk_topl (y := lN (lk_b (q + 1))) (by rw [show (10 : Int64) = lN 10 from rfl, lN_mul, lk_b_s]) ?_
      refine nk_lstoreT dX8_likely_163 (by decide) ?_
      refine nk_iincT dX8_likely_165 rfl (nk_i1 q) (by decide) ?_
      refine nk_goto (tgt := 142) dX8_likely_168 (by decide) ?_
      exact ih (q + 1) (by omega) (by omega)
set_option maxRecDepth 20000 in
theorem l_likelyA {G : nk_EG} {ad : Nat → Nat} {A : Nat → Nat → Int32} {I : Nat → Int32} (hi : mInj ad) {j k o pp : Nat} {x : Int32} (hj : j < 4) (hk : k < o) (ho : o < 1024) (hpp : pp ≤ 10) : ∀ (n : Nat) (q : Nat) (h1 : q ≤ o - (k + 1)) (h2 : o - (k + 1) < q + n), nk_J G mX8_likely 4 (nk_rl (if lk_n (nk_mem (A 0) 0 j) k o ≤ 16 then lk_v pp (lk_n (nk_mem (A 0) 0 j) k o) x else -1000002) (mh ad A I)) 0 0 81 [some (.ref (ad 0)), some (.int (nI j)), some (.int (nI k)), some (.int (nI o)), some (.int (nI pp)), some (.int x), some (.int (nI (fb_ct (fun i => nk_mem (A 0) 0 j (k + 1 + i)) (q)))), some (.int (nI (k + 1 + q))), none, none, none, none, none, none, none, none, none] [] (mh ad A I) := by
  intro n
  induction n with
  | zero => intro q h1 h2; omega
  | succ n ih =>
    intro q h1 h2
    refine nk_iload dX8_likely_81 rfl ?_
    refine nk_iload_n (i := 3) dX8_likely_83 rfl rfl ?_
    refine nk_icmpge (tgt := 114) dX8_likely_84 (by decide) (fun h84 => ?_) (fun h84 => ?_)
    · skip
      have hq := nk_leI (a := o) h84 (by omega) (by omega)
      have e2 : q = o - (k + 1) := by omega
      subst e2
      have e3 : (fb_ct (fun i => nk_mem (A 0) 0 j (k + 1 + i)) (o - (k + 1))) = lk_n (nk_mem (A 0) 0 j) k o := rfl
      have hb := fb_ct_le (fun i => nk_mem (A 0) 0 j (k + 1 + i)) (o - (k + 1))
      rw [e3] at hb ⊢
      refine nk_iload dX8_likely_114 rfl ?_
      refine nk_bipush (v := 16) dX8_likely_116 (by decide) ?_
      refine nk_icmple (tgt := 125) dX8_likely_118 (by decide) (fun h118 => ?_) (fun h118 => ?_)
      · skip
        have hn16 : lk_n (nk_mem (A 0) 0 j) k o ≤ 16 := nk_leI (b := 16) h118 (by omega) (by omega)
        rw [if_pos hn16]
        refine nk_ldc2 qX8_286 dX8_likely_125 ?_
        refine nk_iload dX8_likely_128 rfl ?_
        refine nk_i2l dX8_likely_130 ?_
        refine nk_topl (y := lN pp) (nI_l (by omega)) ?_
        refine nk_lsub dX8_likely_131 ?_
        refine nk_topl (y := lN (lk_a pp 0)) (by rw [show (10 : Int64) = lN 10 from rfl, lN_sub (by omega)]; unfold lk_a; rw [Nat.pow_zero, Nat.mul_one]) ?_
        refine nk_lstoreT dX8_likely_132 (by decide) ?_
        refine nk_ldc2 qX8_286 dX8_likely_134 ?_
        refine nk_lstoreT dX8_likely_137 (by decide) ?_
        refine nk_iconst (v := 0) dX8_likely_139 (by decide) ?_
        refine nk_istoreT dX8_likely_140 (by decide) ?_
        exact l_likelyB (A := A) hpp hn16 (lk_n (nk_mem (A 0) 0 j) k o + 1) 0 (by omega) (by omega)
      · skip
        refine nk_ldc2 qX8_290 dX8_likely_121 ?_
        refine nk_lreturn dX8_likely_124 rfl ?_
        exact ⟨by rw [if_neg (fun z => absurd ((nI_leI (b := 16) (by omega) (by omega)).mpr z) h118)], rfl⟩
    · skip
      have hq := nk_nleI (a := o) h84 (by omega) (by omega)
      refine nk_iload dX8_likely_87 rfl ?_
      refine nk_aload_n (i := 0) dX8_likely_89 rfl rfl ?_
      refine nk_iconst (v := 0) dX8_likely_90 (by decide) ?_
      refine nk_iload_n (i := 1) dX8_likely_91 rfl rfl ?_
      refine nk_iload dX8_likely_92 rfl ?_
      refine nk_cVi kX8_137 (s_X8_hasKey hi (base := 0) (s := j) (k := k + 1 + q) (by omega) (by omega)) dX8_likely_94 mh_0 rfl rfl (by decide) (Nat.le_of_ble_eq_true rfl) ?_
      refine nk_ifeq (tgt := 104) dX8_likely_97 (by decide) (fun h97 => ?_) (fun h97 => ?_)
      · skip
        simp only [nk_b0, Classical.not_not] at h97
        have e : nI (fb_ct (fun i => nk_mem (A 0) 0 j (k + 1 + i)) (q)) + 0 = nI (fb_ct (fun i => nk_mem (A 0) 0 j (k + 1 + i)) (q + 1)) := by rw [fb_ct_succ, if_neg h97]; exact Int32.add_zero _
        refine nk_iconst (v := 0) dX8_likely_104 (by decide) ?_
        refine nk_iadd dX8_likely_105 ?_
        refine nk_top (y := nI (fb_ct (fun i => nk_mem (A 0) 0 j (k + 1 + i)) (q + 1))) (e) ?_
        refine nk_istoreT dX8_likely_106 (by decide) ?_
        refine nk_iincT dX8_likely_108 rfl (nk_i1 (k + 1 + q)) (by decide) ?_
        refine nk_goto (tgt := 81) dX8_likely_111 (by decide) ?_
        exact ih (q + 1) (by omega) (by omega)
      · skip
        simp only [nk_b0, Classical.not_not] at h97
        have e : nI (fb_ct (fun i => nk_mem (A 0) 0 j (k + 1 + i)) (q)) + 1 = nI (fb_ct (fun i => nk_mem (A 0) 0 j (k + 1 + i)) (q + 1)) := by rw [fb_ct_succ, if_pos h97]; exact nI_1 _
        refine nk_iconst (v := 1) dX8_likely_100 (by decide) ?_
        refine nk_goto (tgt := 105) dX8_likely_101 (by decide) ?_
        refine nk_iadd dX8_likely_105 ?_
        refine nk_top (y := nI (fb_ct (fun i => nk_mem (A 0) 0 j (k + 1 + i)) (q + 1))) (e) ?_
        refine nk_istoreT dX8_likely_106 (by decide) ?_
        refine nk_iincT dX8_likely_108 rfl (nk_i1 (k + 1 + q)) (by decide) ?_
        refine nk_goto (tgt := 81) dX8_likely_111 (by decide) ?_
        exact ih (q + 1) (by omega) (by omega)
set_option maxRecDepth 20000 in
theorem s_X8_likely {G : nk_EG} {ad : Nat → Nat} {A : Nat → Nat → Int32} {I : Nat → Int32} (hi : mInj ad) {m b : Nat} (hm : mSh (A 0) 0 m b) {x1 x2 x3 x4 x5 : Int32} : nk_Sl G mX8_likely 4 [.ref (ad 0), .int x1, .int x2, .int x3, .int x4, .int x5] (mh ad A I) (sp_likely m b (nk_mem (A 0) 0) x1 x2 x3 x4 x5) (mh ad A I) := by
  have h4 := hm.2.2.1
  have h10 := hm.2.2.2
  have ht := nk_tp_le h10
  refine nk_S.of (by decide +kernel) (Nat.le_of_ble_eq_true rfl) rfl ?_
  refine nk_aload_n (i := 0) dX8_likely_0 rfl rfl ?_
  refine nk_iload_n (i := 1) dX8_likely_1 rfl rfl ?_
  refine nk_cVi kX8_154 (s_X8_isSet hi hm.1 hm.2.2.1) dX8_likely_2 mh_0 rfl rfl (by decide) (Nat.le_of_ble_eq_true rfl) ?_
  refine nk_ifeq (tgt := 50) dX8_likely_5 (by decide) (fun h5 => ?_) (fun h5 => ?_)
  · skip
    try simp only [nk_b0, Int32.toInt_toInt64, Classical.not_not, nk_l0, nk_l1, nk_l10] at h5
    refine nk_ldc2 qX8_288 dX8_likely_50 ?_
    refine nk_lreturn dX8_likely_53 rfl ?_
    have cc : ¬ c_lk m b x1 x2 x3 x4 x5 := fun z => by
      first
      | exact h5 z.1
      | exact h14 z.2.1
      | exact h23 z.2.2.1
      | exact h36 z.2.2.2.1
      | exact h47 z.2.2.2.2
    exact ⟨by unfold sp_likely; rw [if_neg cc], rfl⟩
  · skip
    try simp only [nk_b0, Int32.toInt_toInt64, Classical.not_not, nk_l0, nk_l1, nk_l10] at h5
    refine nk_aload_n (i := 0) dX8_likely_8 rfl rfl ?_
    refine nk_iload_n (i := 2) dX8_likely_9 rfl rfl ?_
    refine nk_i2l dX8_likely_10 ?_
    refine nk_cVi kX8_157 (s_X8_isKey hi hm.2.1 hm.2.2.2) dX8_likely_11 mh_0 rfl rfl (by decide) (Nat.le_of_ble_eq_true rfl) ?_
    refine nk_ifeq (tgt := 50) dX8_likely_14 (by decide) (fun h14 => ?_) (fun h14 => ?_)
    · skip
      try simp only [nk_b0, Int32.toInt_toInt64, Classical.not_not, nk_l0, nk_l1, nk_l10] at h14
      refine nk_ldc2 qX8_288 dX8_likely_50 ?_
      refine nk_lreturn dX8_likely_53 rfl ?_
      have cc : ¬ c_lk m b x1 x2 x3 x4 x5 := fun z => by
        first
        | exact h5 z.1
        | exact h14 z.2.1
        | exact h23 z.2.2.1
        | exact h36 z.2.2.2.1
        | exact h47 z.2.2.2.2
      exact ⟨by unfold sp_likely; rw [if_neg cc], rfl⟩
    · skip
      try simp only [nk_b0, Int32.toInt_toInt64, Classical.not_not, nk_l0, nk_l1, nk_l10] at h14
      refine nk_aload_n (i := 0) dX8_likely_17 rfl rfl ?_
      refine nk_iload_n (i := 3) dX8_likely_18 rfl rfl ?_
      refine nk_i2l dX8_likely_19 ?_
      refine nk_cVi kX8_157 (s_X8_isKey hi hm.2.1 hm.2.2.2) dX8_likely_20 mh_0 rfl rfl (by decide) (Nat.le_of_ble_eq_true rfl) ?_
      refine nk_ifeq (tgt := 50) dX8_likely_23 (by decide) (fun h23 => ?_) (fun h23 => ?_)
      · skip
        try simp only [nk_b0, Int32.toInt_toInt64, Classical.not_not, nk_l0, nk_l1, nk_l10] at h23
        refine nk_ldc2 qX8_288 dX8_likely_50 ?_
        refine nk_lreturn dX8_likely_53 rfl ?_
        have cc : ¬ c_lk m b x1 x2 x3 x4 x5 := fun z => by
          first
          | exact h5 z.1
          | exact h14 z.2.1
          | exact h23 z.2.2.1
          | exact h36 z.2.2.2.1
          | exact h47 z.2.2.2.2
        exact ⟨by unfold sp_likely; rw [if_neg cc], rfl⟩
      · skip
        try simp only [nk_b0, Int32.toInt_toInt64, Classical.not_not, nk_l0, nk_l1, nk_l10] at h23
        refine nk_iload dX8_likely_26 rfl ?_
        refine nk_i2l dX8_likely_28 ?_
        refine nk_lconst (v := 0) dX8_likely_29 rfl ?_
        refine nk_ldc2 qX8_286 dX8_likely_30 ?_
        refine nk_cSi kX8_39 (s_X8_in) dX8_likely_33 rfl rfl (by decide) (Nat.le_of_ble_eq_true rfl) ?_
        refine nk_ifeq (tgt := 50) dX8_likely_36 (by decide) (fun h36 => ?_) (fun h36 => ?_)
        · skip
          try simp only [nk_b0, Int32.toInt_toInt64, Classical.not_not, nk_l0, nk_l1, nk_l10] at h36
          refine nk_ldc2 qX8_288 dX8_likely_50 ?_
          refine nk_lreturn dX8_likely_53 rfl ?_
          have cc : ¬ c_lk m b x1 x2 x3 x4 x5 := fun z => by
            first
            | exact h5 z.1
            | exact h14 z.2.1
            | exact h23 z.2.2.1
            | exact h36 z.2.2.2.1
            | exact h47 z.2.2.2.2
          exact ⟨by unfold sp_likely; rw [if_neg cc], rfl⟩
        · skip
          try simp only [nk_b0, Int32.toInt_toInt64, Classical.not_not, nk_l0, nk_l1, nk_l10] at h36
          refine nk_iload dX8_likely_39 rfl ?_
          refine nk_i2l dX8_likely_41 ?_
          refine nk_lconst (v := 0) dX8_likely_42 rfl ?_
          refine nk_lconst (v := 1) dX8_likely_43 rfl ?_
          refine nk_cSi kX8_39 (s_X8_in) dX8_likely_44 rfl rfl (by decide) (Nat.le_of_ble_eq_true rfl) ?_
          refine nk_ifne (tgt := 54) dX8_likely_47 (by decide) (fun h47 => ?_) (fun h47 => ?_)
          · skip
            try simp only [nk_b0, Int32.toInt_toInt64, Classical.not_not, nk_l0, nk_l1, nk_l10] at h47
            have cc : c_lk m b x1 x2 x3 x4 x5 := ⟨h5, h14, h23, h36, h47⟩
            unfold sp_likely
            rw [if_pos cc]
            obtain ⟨j, hj, rfl⟩ := nk_getN h5
            obtain ⟨k, hk, rfl⟩ := nk_getN h14
            obtain ⟨o, ho, rfl⟩ := nk_getN h23
            obtain ⟨pp, hpp, rfl⟩ := nk_getR (n := 10) h36
            rw [sp_n_nI (by omega), sp_n_nI (by omega), sp_n_nI (by omega), sp_n_nI (by omega)]
            refine nk_aload_n (i := 0) dX8_likely_54 rfl rfl ?_
            refine nk_iconst (v := 0) dX8_likely_55 (by decide) ?_
            refine nk_iload_n (i := 1) dX8_likely_56 rfl rfl ?_
            refine nk_iload_n (i := 3) dX8_likely_57 rfl rfl ?_
            refine nk_cVi kX8_137 (s_X8_hasKey hi (base := 0) (s := j) (k := o) (by omega) (by omega)) dX8_likely_58 mh_0 rfl rfl (by decide) (Nat.le_of_ble_eq_true rfl) ?_
            refine nk_ifeq (tgt := 69) dX8_likely_61 (by decide) (fun h61 => ?_) (fun h61 => ?_)
            · skip
              try simp only [nk_b0, Int32.toInt_toInt64, Classical.not_not, nk_l0, nk_l1, nk_l10] at h61
              refine nk_ldc2 qX8_290 dX8_likely_69 ?_
              refine nk_lreturn dX8_likely_72 rfl ?_
              have c2 : ¬ c_lk2 (nk_mem (A 0) 0 j) k o := fun z => by
                first
                | exact h61 z.1
                | exact h66 ((nI_ltI (by omega) (by omega)).mpr z.2.1)
              exact ⟨by rw [if_neg c2], rfl⟩
            · skip
              try simp only [nk_b0, Int32.toInt_toInt64, Classical.not_not, nk_l0, nk_l1, nk_l10] at h61
              refine nk_iload_n (i := 3) dX8_likely_64 rfl rfl ?_
              refine nk_iload_n (i := 2) dX8_likely_65 rfl rfl ?_
              refine nk_icmpgt (tgt := 73) dX8_likely_66 (by decide) (fun h66 => ?_) (fun h66 => ?_)
              · skip
                refine nk_iconst (v := 0) dX8_likely_73 (by decide) ?_
                refine nk_istoreT dX8_likely_74 (by decide) ?_
                refine nk_iload_n (i := 2) dX8_likely_76 rfl rfl ?_
                refine nk_iconst (v := 1) dX8_likely_77 (by decide) ?_
                refine nk_iadd dX8_likely_78 ?_
                refine nk_top (y := nI (k + 1 + 0)) (nI_1 k) ?_
                refine nk_istoreT dX8_likely_79 (by decide) ?_
                have hko : k < o := nk_ltI h66 (by omega) (by omega)
                refine nk_J.mono (l_likelyA (A := A) (I := I) (j := j) (k := k) (o := o) hi (by omega) hko (by omega) hpp (o - (k + 1) + 1) 0 (by omega) (by omega)) (fun r H' q => ?_)
                obtain ⟨rfl, rfl⟩ := q
                refine ⟨?_, rfl⟩
                by_cases c : lk_n (nk_mem (A 0) 0 j) k o ≤ 16
                · have c2 : c_lk2 (nk_mem (A 0) 0 j) k o := ⟨h61, hko, c⟩
                  rw [if_pos c, if_pos c2]
                · have c2 : ¬ c_lk2 (nk_mem (A 0) 0 j) k o := fun z => c z.2.2
                  rw [if_neg c, if_neg c2]
              · skip
                refine nk_ldc2 qX8_290 dX8_likely_69 ?_
                refine nk_lreturn dX8_likely_72 rfl ?_
                have c2 : ¬ c_lk2 (nk_mem (A 0) 0 j) k o := fun z => by
                  first
                  | exact h61 z.1
                  | exact h66 ((nI_ltI (by omega) (by omega)).mpr z.2.1)
                exact ⟨by rw [if_neg c2], rfl⟩
          · skip
            try simp only [nk_b0, Int32.toInt_toInt64, Classical.not_not, nk_l0, nk_l1, nk_l10] at h47
            refine nk_ldc2 qX8_288 dX8_likely_50 ?_
            refine nk_lreturn dX8_likely_53 rfl ?_
            have cc : ¬ c_lk m b x1 x2 x3 x4 x5 := fun z => by
              first
              | exact h5 z.1
              | exact h14 z.2.1
              | exact h23 z.2.2.1
              | exact h36 z.2.2.2.1
              | exact h47 z.2.2.2.2
            exact ⟨by unfold sp_likely; rw [if_neg cc], rfl⟩

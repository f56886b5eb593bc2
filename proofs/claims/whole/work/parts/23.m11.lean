/-! the reference: copies of rows, acts -/
set_option maxRecDepth 20000 in
theorem l_X8_copyF {G : nk_EG} {ad : Nat → Nat} {A : Nat → Nat → Int32} {I : Nat → Int32} (hi : mInj ad) {a i b j N : Nat} {Φ : Option Value → nk_AH → Prop} (ha : a < 8) (hb : b < 8) (hi2 : i + N ≤ 40) (hj2 : j + N ≤ 40) (kk : ∀ (l6 l7 l8 : Option Value), nk_J G mX8_copy 3 Φ 0 0 168 [some (.ref (ad 0)), some (.int (nI a)), some (.int (nI i)), some (.int (nI b)), some (.int (nI j)), some (.int (nI N)), l6, l7, l8] [] (mh ad (a_copy A a i b j N) I)) (hd : a ≠ b ∨ j ≤ i) : ∀ (n : Nat) (k : Nat) (l8 : Option Value) (h1 : k ≤ N) (h2 : N < k + n), nk_J G mX8_copy 3 (Φ) 0 0 107 [some (.ref (ad 0)), some (.int (nI a)), some (.int (nI i)), some (.int (nI b)), some (.int (nI j)), some (.int (nI N)), some (.int 0), some (.int (nI k)), l8] [] (mh ad (va_up A 4 (va_cpy (A 4) (A 4) (40 * a + i) (40 * b + j) k)) I) := by
  intro n
  induction n with
  | zero => intro k l8 h1 h2; omega
  | succ n ih =>
    intro k l8 h1 h2
    refine nk_iload dX8_copy_107 rfl ?_
    refine nk_iload dX8_copy_109 rfl ?_
    refine nk_icmpge (tgt := 168) dX8_copy_111 (by decide) (fun h111 => ?_) (fun h111 => ?_)
    · skip
      have e2 : k = N := Nat.le_antisymm h1 (nk_leI (a := N) h111 (by omega) (by omega))
      subst e2
      exact (kk _ _ _).to rfl rfl (by unfold a_copy; try simp only [Nat.sub_self, Nat.add_zero])
    · skip
      have hk := nk_nleI (a := N) h111 (by omega) (by omega)
      refine nk_iload dX8_copy_114 rfl ?_
      refine nk_ifeq (tgt := 129) dX8_copy_116 (by decide) (fun _ => ?_) (fun h116 => absurd (rfl) h116)
      refine nk_iload dX8_copy_129 rfl ?_
      refine nk_istoreT dX8_copy_131 (by decide) ?_
      refine nk_aload_n (i := 0) dX8_copy_133 rfl rfl ?_
      refine nk_getf fX8_23 dX8_copy_134 mh_0 rfl ?_
      refine nk_bipush (v := 40) dX8_copy_137 (by decide) ?_
      refine nk_iload_n (i := 3) dX8_copy_139 rfl rfl ?_
      refine nk_imul dX8_copy_140 ?_
      refine nk_iload dX8_copy_141 rfl ?_
      refine nk_iadd dX8_copy_143 ?_
      refine nk_iload dX8_copy_144 rfl ?_
      refine nk_iadd dX8_copy_146 ?_
      refine nk_aload_n (i := 0) dX8_copy_147 rfl rfl ?_
      refine nk_getf fX8_23 dX8_copy_148 mh_0 rfl ?_
      refine nk_bipush (v := 40) dX8_copy_151 (by decide) ?_
      refine nk_iload_n (i := 1) dX8_copy_153 rfl rfl ?_
      refine nk_imul dX8_copy_154 ?_
      refine nk_iload_n (i := 2) dX8_copy_155 rfl rfl ?_
      refine nk_iadd dX8_copy_156 ?_
      refine nk_iload dX8_copy_157 rfl ?_
      refine nk_iadd dX8_copy_159 ?_
      refine nk_ialdN (j := 40 * a + i + k) dX8_copy_160 (mh_5 hi) (by rw [nk_i40, nI_add]) (by omega) (by decide) ?_
      refine nk_top (y := A 4 (40 * a + i + k)) (va_cpy_out (by omega)) ?_
      refine nk_iastN (j := 40 * b + j + k) dX8_copy_161 (mh_5 hi) (by rw [nk_i40, nI_add]) (by omega) (by decide) ?_
      refine nk_J.to ?_ rfl rfl (mu_A4 hi)
      refine nk_iincT dX8_copy_162 rfl (nk_i1 k) (by decide) ?_
      refine nk_goto (tgt := 107) dX8_copy_165 (by decide) ?_
      exact (ih (k + 1) _ (by omega) (by omega)).to rfl rfl (by rw [bx_uu]; exact congrArg (fun z => mh ad (va_up A 4 z) I) (va_cpy_step (by omega)))
set_option maxRecDepth 20000 in
theorem l_X8_copyB {G : nk_EG} {ad : Nat → Nat} {A : Nat → Nat → Int32} {I : Nat → Int32} (hi : mInj ad) {a i b j N : Nat} {Φ : Option Value → nk_AH → Prop} (ha : a < 8) (hb : b < 8) (hi2 : i + N ≤ 40) (hj2 : j + N ≤ 40) (kk : ∀ (l6 l7 l8 : Option Value), nk_J G mX8_copy 3 Φ 0 0 168 [some (.ref (ad 0)), some (.int (nI a)), some (.int (nI i)), some (.int (nI b)), some (.int (nI j)), some (.int (nI N)), l6, l7, l8] [] (mh ad (a_copy A a i b j N) I)) (hd : a ≠ b ∨ i < j) : ∀ (n : Nat) (k : Nat) (l8 : Option Value) (h1 : k ≤ N) (h2 : N < k + n), nk_J G mX8_copy 3 (Φ) 0 0 107 [some (.ref (ad 0)), some (.int (nI a)), some (.int (nI i)), some (.int (nI b)), some (.int (nI j)), some (.int (nI N)), some (.int 1), some (.int (nI k)), l8] [] (mh ad (va_up A 4 (va_cpy (A 4) (A 4) (40 * a + i + (N - k)) (40 * b + j + (N - k)) k)) I) := by
  intro n
  induction n with
  | zero => intro k l8 h1 h2; omega
  | succ n ih =>
    intro k l8 h1 h2
    refine nk_iload dX8_copy_107 rfl ?_
    refine nk_iload dX8_copy_109 rfl ?_
    refine nk_icmpge (tgt := 168) dX8_copy_111 (by decide) (fun h111 => ?_) (fun h111 => ?_)
    · skip
      have e2 : k = N := Nat.le_antisymm h1 (nk_leI (a := N) h111 (by omega) (by omega))
      subst e2
      exact (kk _ _ _).to rfl rfl (by unfold a_copy; try simp only [Nat.sub_self, Nat.add_zero])
    · skip
      have hk := nk_nleI (a := N) h111 (by omega) (by omega)
      refine nk_iload dX8_copy_114 rfl ?_
      refine nk_ifeq (tgt := 129) dX8_copy_116 (by decide) (fun h116 => absurd h116 (by decide)) (fun _ => ?_)
      refine nk_iload dX8_copy_119 rfl ?_
      refine nk_iconst (v := 1) dX8_copy_121 (by decide) ?_
      refine nk_isub dX8_copy_122 ?_
      refine nk_iload dX8_copy_123 rfl ?_
      refine nk_isub dX8_copy_125 ?_
      refine nk_goto (tgt := 131) dX8_copy_126 (by decide) ?_
      refine nk_top (y := nI (N - 1 - k)) (by rw [show (1 : Int32) = nI 1 from rfl, pk_sub (by omega), pk_sub (by omega)]) ?_
      refine nk_istoreT dX8_copy_131 (by decide) ?_
      refine nk_aload_n (i := 0) dX8_copy_133 rfl rfl ?_
      refine nk_getf fX8_23 dX8_copy_134 mh_0 rfl ?_
      refine nk_bipush (v := 40) dX8_copy_137 (by decide) ?_
      refine nk_iload_n (i := 3) dX8_copy_139 rfl rfl ?_
      refine nk_imul dX8_copy_140 ?_
      refine nk_iload dX8_copy_141 rfl ?_
      refine nk_iadd dX8_copy_143 ?_
      refine nk_iload dX8_copy_144 rfl ?_
      refine nk_iadd dX8_copy_146 ?_
      refine nk_aload_n (i := 0) dX8_copy_147 rfl rfl ?_
      refine nk_getf fX8_23 dX8_copy_148 mh_0 rfl ?_
      refine nk_bipush (v := 40) dX8_copy_151 (by decide) ?_
      refine nk_iload_n (i := 1) dX8_copy_153 rfl rfl ?_
      refine nk_imul dX8_copy_154 ?_
      refine nk_iload_n (i := 2) dX8_copy_155 rfl rfl ?_
      refine nk_iadd dX8_copy_156 ?_
      refine nk_iload dX8_copy_157 rfl ?_
      refine nk_iadd dX8_copy_159 ?_
      refine nk_ialdN (j := 40 * a + i + (N - 1 - k)) dX8_copy_160 (mh_5 hi) (by rw [nk_i40, nI_add]) (by omega) (by decide) ?_
      refine nk_top (y := A 4 (40 * a + i + (N - 1 - k))) (va_cpy_out (by omega)) ?_
      refine nk_iastN (j := 40 * b + j + (N - 1 - k)) dX8_copy_161 (mh_5 hi) (by rw [nk_i40, nI_add]) (by omega) (by decide) ?_
      refine nk_J.to ?_ rfl rfl (mu_A4 hi)
      refine nk_iincT dX8_copy_162 rfl (nk_i1 k) (by decide) ?_
      refine nk_goto (tgt := 107) dX8_copy_165 (by decide) ?_
      exact (ih (k + 1) _ (by omega) (by omega)).to rfl rfl (by rw [bx_uu]; exact congrArg (fun z => mh ad (va_up A 4 z) I) (va_cpy_back (by omega)))
set_option maxHeartbeats 4000000 in
set_option maxRecDepth 20000 in
theorem s_X8_copy {G : nk_EG} {ad : Nat → Nat} {A : Nat → Nat → Int32} {I : Nat → Int32} (hi : mInj ad) (hR : mRw A) {x1 x2 x3 x4 x5 : Int32} : nk_Si G mX8_copy 3 [.ref (ad 0), .int x1, .int x2, .int x3, .int x4, .int x5] (mh ad A I) (sp_val (f_copy A x1 x2 x3 x4 x5) x5) (mh ad (sp_A (f_copy A x1 x2 x3 x4 x5) A (a_copy A (sp_n x1) (sp_n x2) (sp_n x3) (sp_n x4) (sp_n x5))) (sp_I (f_copy A x1 x2 x3 x4 x5) I)) := by
  refine nk_S.of (by decide +kernel) (Nat.le_of_ble_eq_true rfl) rfl ?_
  refine nk_iload_n (i := 1) dX8_copy_0 rfl rfl ?_
  refine nk_cSi kX8_43 (s_X8_isRow) dX8_copy_1 rfl rfl (by decide) (Nat.le_of_ble_eq_true rfl) ?_
  refine nk_ifeq (tgt := 14) dX8_copy_4 (by decide) (fun h4 => ?_) (fun h4 => ?_)
  · skip
    simp only [nk_b0, Int32.toInt_toInt64, Classical.not_not, nk_l0, nk_l1, nk_l2, nk_l255] at h4
    refine nk_ldc qX8_49 dX8_copy_14 ?_
    refine nk_ireturn dX8_copy_16 rfl ?_
    first
    | (have hf : f_copy A x1 x2 x3 x4 x5 = (-1) := by unfold f_copy; rw [if_neg h4]
       exact ⟨by rw [hf, sp_val_b], by rw [hf, sp_I_b, sp_A_b]⟩)
    | (have hf : f_copy A x1 x2 x3 x4 x5 = (-1) := by unfold f_copy; rw [if_pos h4, if_neg h11]
       exact ⟨by rw [hf, sp_val_b], by rw [hf, sp_I_b, sp_A_b]⟩)
    | (have hf : f_copy A x1 x2 x3 x4 x5 = 1 := by unfold f_copy; rw [if_pos h4, if_pos h11, na, if_neg (Int32.not_le.mpr h23)]
       exact ⟨by rw [hf, sp_val_1], by rw [hf, sp_I_1, sp_A_1]⟩)
    | (have hf : f_copy A x1 x2 x3 x4 x5 = 1 := by unfold f_copy; rw [if_pos h4, if_pos h11, na, nb, if_pos (Int32.not_lt.mp h23), if_neg h32]
       exact ⟨by rw [hf, sp_val_1], by rw [hf, sp_I_1, sp_A_1]⟩)
    | (have hf : f_copy A x1 x2 x3 x4 x5 = 5 := by unfold f_copy; rw [if_pos h4, if_pos h11, na, nb, if_pos (Int32.not_lt.mp h23), if_pos h32, if_neg h53]
       exact ⟨by rw [hf, sp_val_5], by rw [hf, sp_I_5, sp_A_5]⟩)
    | (have hf : f_copy A x1 x2 x3 x4 x5 = 2 := by unfold f_copy; rw [if_pos h4, if_pos h11, na, nb, if_pos (Int32.not_lt.mp h23), if_pos h32, if_pos h53, if_neg h70]
       exact ⟨by rw [hf, sp_val_2], by rw [hf, sp_I_2, sp_A_2]⟩)
    | (have hf : f_copy A x1 x2 x3 x4 x5 = 2 := by unfold f_copy; rw [if_pos h4, if_pos h11, na, nb, if_pos (Int32.not_lt.mp h23), if_pos h32, if_pos h53, if_pos h70, if_neg h82]
       exact ⟨by rw [hf, sp_val_2], by rw [hf, sp_I_2, sp_A_2]⟩)
  · skip
    simp only [nk_b0, Int32.toInt_toInt64, Classical.not_not, nk_l0, nk_l1, nk_l2, nk_l255] at h4
    refine nk_iload_n (i := 3) dX8_copy_7 rfl rfl ?_
    refine nk_cSi kX8_43 (s_X8_isRow) dX8_copy_8 rfl rfl (by decide) (Nat.le_of_ble_eq_true rfl) ?_
    refine nk_ifne (tgt := 17) dX8_copy_11 (by decide) (fun h11 => ?_) (fun h11 => ?_)
    · skip
      simp only [nk_b0, Int32.toInt_toInt64, Classical.not_not, nk_l0, nk_l1, nk_l2, nk_l255] at h11
      obtain ⟨a, ha, hae⟩ := nk_getR (n := 7) h4
      obtain ⟨b, hb, hbe⟩ := nk_getR (n := 7) h11
      have na : sp_n x1 = a := by rw [hae, sp_n_nI (by omega)]
      have nb : sp_n x3 = b := by rw [hbe, sp_n_nI (by omega)]
      have hRa := hR a (by omega)
      have hRb := hR b (by omega)
      refine nk_aload_n (i := 0) dX8_copy_17 rfl rfl ?_
      refine nk_getf fX8_20 dX8_copy_18 mh_0 rfl ?_
      refine nk_iload_n (i := 1) dX8_copy_21 rfl rfl ?_
      refine nk_ialdN (j := a) dX8_copy_22 (mh_4 hi) (hae) (by omega) (by decide) ?_
      refine nk_iflt (tgt := 35) dX8_copy_23 (by decide) (fun h23 => ?_) (fun h23 => ?_)
      · skip
        refine nk_aload_n (i := 0) dX8_copy_35 rfl rfl ?_
        refine nk_iconst (v := 1) dX8_copy_36 (by decide) ?_
        refine nk_cVi kX8_50 (s_X8_find hi) dX8_copy_37 mh_0 rfl rfl (by decide) (Nat.le_of_ble_eq_true rfl) ?_
        refine nk_ireturn dX8_copy_40 rfl ?_
        first
        | (have hf : f_copy A x1 x2 x3 x4 x5 = (-1) := by unfold f_copy; rw [if_neg h4]
           exact ⟨by rw [hf, sp_val_b], by rw [hf, sp_I_b, sp_A_b]⟩)
        | (have hf : f_copy A x1 x2 x3 x4 x5 = (-1) := by unfold f_copy; rw [if_pos h4, if_neg h11]
           exact ⟨by rw [hf, sp_val_b], by rw [hf, sp_I_b, sp_A_b]⟩)
        | (have hf : f_copy A x1 x2 x3 x4 x5 = 1 := by unfold f_copy; rw [if_pos h4, if_pos h11, na, if_neg (Int32.not_le.mpr h23)]
           exact ⟨by rw [hf, sp_val_1], by rw [hf, sp_I_1, sp_A_1]⟩)
        | (have hf : f_copy A x1 x2 x3 x4 x5 = 1 := by unfold f_copy; rw [if_pos h4, if_pos h11, na, nb, if_pos (Int32.not_lt.mp h23), if_neg h32]
           exact ⟨by rw [hf, sp_val_1], by rw [hf, sp_I_1, sp_A_1]⟩)
        | (have hf : f_copy A x1 x2 x3 x4 x5 = 5 := by unfold f_copy; rw [if_pos h4, if_pos h11, na, nb, if_pos (Int32.not_lt.mp h23), if_pos h32, if_neg h53]
           exact ⟨by rw [hf, sp_val_5], by rw [hf, sp_I_5, sp_A_5]⟩)
        | (have hf : f_copy A x1 x2 x3 x4 x5 = 2 := by unfold f_copy; rw [if_pos h4, if_pos h11, na, nb, if_pos (Int32.not_lt.mp h23), if_pos h32, if_pos h53, if_neg h70]
           exact ⟨by rw [hf, sp_val_2], by rw [hf, sp_I_2, sp_A_2]⟩)
        | (have hf : f_copy A x1 x2 x3 x4 x5 = 2 := by unfold f_copy; rw [if_pos h4, if_pos h11, na, nb, if_pos (Int32.not_lt.mp h23), if_pos h32, if_pos h53, if_pos h70, if_neg h82]
           exact ⟨by rw [hf, sp_val_2], by rw [hf, sp_I_2, sp_A_2]⟩)
      · skip
        refine nk_aload_n (i := 0) dX8_copy_26 rfl rfl ?_
        refine nk_getf fX8_20 dX8_copy_27 mh_0 rfl ?_
        refine nk_iload_n (i := 3) dX8_copy_30 rfl rfl ?_
        refine nk_ialdN (j := b) dX8_copy_31 (mh_4 hi) (hbe) (by omega) (by decide) ?_
        refine nk_ifge (tgt := 41) dX8_copy_32 (by decide) (fun h32 => ?_) (fun h32 => ?_)
        · skip
          refine nk_aload_n (i := 0) dX8_copy_41 rfl rfl ?_
          refine nk_getf fX8_17 dX8_copy_42 mh_0 rfl ?_
          refine nk_iload_n (i := 1) dX8_copy_45 rfl rfl ?_
          refine nk_ialdN (j := a) dX8_copy_46 (mh_3 hi) (hae) (by omega) (by decide) ?_
          refine nk_aload_n (i := 0) dX8_copy_47 rfl rfl ?_
          refine nk_getf fX8_17 dX8_copy_48 mh_0 rfl ?_
          refine nk_iload_n (i := 3) dX8_copy_51 rfl rfl ?_
          refine nk_ialdN (j := b) dX8_copy_52 (mh_3 hi) (hbe) (by omega) (by decide) ?_
          refine nk_icmpeq (tgt := 62) dX8_copy_53 (by decide) (fun h53 => ?_) (fun h53 => ?_)
          · skip
            refine nk_aload_n (i := 0) dX8_copy_62 rfl rfl ?_
            refine nk_iload_n (i := 1) dX8_copy_63 rfl rfl ?_
            refine nk_iload_n (i := 2) dX8_copy_64 rfl rfl ?_
            refine nk_iload dX8_copy_65 rfl ?_
            refine nk_cVi kX8_61 (hae ▸ s_X8_isSpan hi (j := a) (by omega)) dX8_copy_67 mh_0 rfl rfl (by decide) (Nat.le_of_ble_eq_true rfl) ?_
            refine nk_ifeq (tgt := 85) dX8_copy_70 (by decide) (fun h70 => ?_) (fun h70 => ?_)
            · skip
              simp only [nk_b0, Int32.toInt_toInt64, Classical.not_not, nk_l0, nk_l1, nk_l2, nk_l255] at h70
              refine nk_aload_n (i := 0) dX8_copy_85 rfl rfl ?_
              refine nk_iconst (v := 2) dX8_copy_86 (by decide) ?_
              refine nk_cVi kX8_50 (s_X8_find hi) dX8_copy_87 mh_0 rfl rfl (by decide) (Nat.le_of_ble_eq_true rfl) ?_
              refine nk_ireturn dX8_copy_90 rfl ?_
              first
              | (have hf : f_copy A x1 x2 x3 x4 x5 = (-1) := by unfold f_copy; rw [if_neg h4]
                 exact ⟨by rw [hf, sp_val_b], by rw [hf, sp_I_b, sp_A_b]⟩)
              | (have hf : f_copy A x1 x2 x3 x4 x5 = (-1) := by unfold f_copy; rw [if_pos h4, if_neg h11]
                 exact ⟨by rw [hf, sp_val_b], by rw [hf, sp_I_b, sp_A_b]⟩)
              | (have hf : f_copy A x1 x2 x3 x4 x5 = 1 := by unfold f_copy; rw [if_pos h4, if_pos h11, na, if_neg (Int32.not_le.mpr h23)]
                 exact ⟨by rw [hf, sp_val_1], by rw [hf, sp_I_1, sp_A_1]⟩)
              | (have hf : f_copy A x1 x2 x3 x4 x5 = 1 := by unfold f_copy; rw [if_pos h4, if_pos h11, na, nb, if_pos (Int32.not_lt.mp h23), if_neg h32]
                 exact ⟨by rw [hf, sp_val_1], by rw [hf, sp_I_1, sp_A_1]⟩)
              | (have hf : f_copy A x1 x2 x3 x4 x5 = 5 := by unfold f_copy; rw [if_pos h4, if_pos h11, na, nb, if_pos (Int32.not_lt.mp h23), if_pos h32, if_neg h53]
                 exact ⟨by rw [hf, sp_val_5], by rw [hf, sp_I_5, sp_A_5]⟩)
              | (have hf : f_copy A x1 x2 x3 x4 x5 = 2 := by unfold f_copy; rw [if_pos h4, if_pos h11, na, nb, if_pos (Int32.not_lt.mp h23), if_pos h32, if_pos h53, if_neg h70]
                 exact ⟨by rw [hf, sp_val_2], by rw [hf, sp_I_2, sp_A_2]⟩)
              | (have hf : f_copy A x1 x2 x3 x4 x5 = 2 := by unfold f_copy; rw [if_pos h4, if_pos h11, na, nb, if_pos (Int32.not_lt.mp h23), if_pos h32, if_pos h53, if_pos h70, if_neg h82]
                 exact ⟨by rw [hf, sp_val_2], by rw [hf, sp_I_2, sp_A_2]⟩)
            · skip
              simp only [nk_b0, Int32.toInt_toInt64, Classical.not_not, nk_l0, nk_l1, nk_l2, nk_l255] at h70
              refine nk_aload_n (i := 0) dX8_copy_73 rfl rfl ?_
              refine nk_iload_n (i := 3) dX8_copy_74 rfl rfl ?_
              refine nk_iload dX8_copy_75 rfl ?_
              refine nk_iload dX8_copy_77 rfl ?_
              refine nk_cVi kX8_61 (hbe ▸ s_X8_isSpan hi (j := b) (by omega)) dX8_copy_79 mh_0 rfl rfl (by decide) (Nat.le_of_ble_eq_true rfl) ?_
              refine nk_ifne (tgt := 91) dX8_copy_82 (by decide) (fun h82 => ?_) (fun h82 => ?_)
              · skip
                simp only [nk_b0, Int32.toInt_toInt64, Classical.not_not, nk_l0, nk_l1, nk_l2, nk_l255] at h82
                obtain ⟨i, hi1, hie⟩ := nI_of (Int32.not_lt.mpr h70.1)
                obtain ⟨j, hj1, hje⟩ := nI_of (Int32.not_lt.mpr h82.1)
                obtain ⟨N, hN1, hNe⟩ := nI_of (Int32.not_lt.mpr h70.2.1)
                have s1 := h70.2.2
                have s2 := h82.2.2
                have t1 : x2.toInt = i := by rw [hie, nI_toInt hi1]
                have t2 : x4.toInt = j := by rw [hje, nI_toInt hj1]
                have t3 : x5.toInt = N := by rw [hNe, nI_toInt hN1]
                have hf : f_copy A x1 x2 x3 x4 x5 = 0 := by unfold f_copy; rw [if_pos h4, if_pos h11, na, nb, if_pos (Int32.not_lt.mp h23), if_pos h32, if_pos h53, if_pos h70, if_pos h82]
                have fin : ∀ (l6 l7 l8 : Option Value), nk_J G mX8_copy 3 (nk_ri (sp_val (f_copy A x1 x2 x3 x4 x5) x5) (mh ad (sp_A (f_copy A x1 x2 x3 x4 x5) A (a_copy A (sp_n x1) (sp_n x2) (sp_n x3) (sp_n x4) (sp_n x5))) (sp_I (f_copy A x1 x2 x3 x4 x5) I))) 0 0 168 [some (.ref (ad 0)), some (.int (nI a)), some (.int (nI i)), some (.int (nI b)), some (.int (nI j)), some (.int (nI N)), l6, l7, l8] [] (mh ad (a_copy A a i b j N) I) := by
                  intro l6 l7 l8
                  refine nk_aload_n (i := 0) dX8_copy_168 rfl rfl ?_
                  refine nk_iload dX8_copy_169 rfl ?_
                  refine nk_cVi kX8_54 (s_X8_well hi) dX8_copy_171 mh_0 rfl rfl (by decide) (Nat.le_of_ble_eq_true rfl) ?_
                  refine nk_ireturn dX8_copy_174 rfl ?_
                  rw [hf, sp_val_0, sp_I_0, sp_A_0, na, nb, hie, hje, hNe, sp_n_nI (by omega), sp_n_nI (by omega), sp_n_nI (by omega)]
                  exact ⟨rfl, rfl⟩
                rw [hae, hbe, hie, hje, hNe] at fin ⊢
                refine nk_iload_n (i := 2) dX8_copy_91 rfl rfl ?_
                refine nk_iload dX8_copy_92 rfl ?_
                refine nk_icmpge (tgt := 101) dX8_copy_94 (by decide) (fun h94 => ?_) (fun h94 => ?_)
                · skip
                  refine nk_iconst (v := 0) dX8_copy_101 (by decide) ?_
                  refine nk_istoreT dX8_copy_102 (by decide) ?_
                  refine nk_iconst (v := 0) dX8_copy_104 (by decide) ?_
                  refine nk_istoreT dX8_copy_105 (by decide) ?_
                  first
                  | exact (l_X8_copyF hi (by omega) (by omega) (by omega) (by omega) fin (Or.inr (nk_leI h94 (by omega) (by omega))) (N + 1) 0 none (by omega) (by omega)).to rfl rfl (by rw [va_cpy_0, va_up_same])
                  | exact (l_X8_copyB hi (by omega) (by omega) (by omega) (by omega) fin (Or.inr (nk_nleI h94 (by omega) (by omega))) (N + 1) 0 none (by omega) (by omega)).to rfl rfl (by rw [va_cpy_0, va_up_same])
                · skip
                  refine nk_iconst (v := 1) dX8_copy_97 (by decide) ?_
                  refine nk_goto (tgt := 102) dX8_copy_98 (by decide) ?_
                  refine nk_istoreT dX8_copy_102 (by decide) ?_
                  refine nk_iconst (v := 0) dX8_copy_104 (by decide) ?_
                  refine nk_istoreT dX8_copy_105 (by decide) ?_
                  first
                  | exact (l_X8_copyF hi (by omega) (by omega) (by omega) (by omega) fin (Or.inr (nk_leI h94 (by omega) (by omega))) (N + 1) 0 none (by omega) (by omega)).to rfl rfl (by rw [va_cpy_0, va_up_same])
                  | exact (l_X8_copyB hi (by omega) (by omega) (by omega) (by omega) fin (Or.inr (nk_nleI h94 (by omega) (by omega))) (N + 1) 0 none (by omega) (by omega)).to rfl rfl (by rw [va_cpy_0, va_up_same])
              · skip
                simp only [nk_b0, Int32.toInt_toInt64, Classical.not_not, nk_l0, nk_l1, nk_l2, nk_l255] at h82
                refine nk_aload_n (i := 0) dX8_copy_85 rfl rfl ?_
                refine nk_iconst (v := 2) dX8_copy_86 (by decide) ?_
                refine nk_cVi kX8_50 (s_X8_find hi) dX8_copy_87 mh_0 rfl rfl (by decide) (Nat.le_of_ble_eq_true rfl) ?_
                refine nk_ireturn dX8_copy_90 rfl ?_
                first
                | (have hf : f_copy A x1 x2 x3 x4 x5 = (-1) := by unfold f_copy; rw [if_neg h4]
                   exact ⟨by rw [hf, sp_val_b], by rw [hf, sp_I_b, sp_A_b]⟩)
                | (have hf : f_copy A x1 x2 x3 x4 x5 = (-1) := by unfold f_copy; rw [if_pos h4, if_neg h11]
                   exact ⟨by rw [hf, sp_val_b], by rw [hf, sp_I_b, sp_A_b]⟩)
                | (have hf : f_copy A x1 x2 x3 x4 x5 = 1 := by unfold f_copy; rw [if_pos h4, if_pos h11, na, if_neg (Int32.not_le.mpr h23)]
                   exact ⟨by rw [hf, sp_val_1], by rw [hf, sp_I_1, sp_A_1]⟩)
                | (have hf : f_copy A x1 x2 x3 x4 x5 = 1 := by unfold f_copy; rw [if_pos h4, if_pos h11, na, nb, if_pos (Int32.not_lt.mp h23), if_neg h32]
                   exact ⟨by rw [hf, sp_val_1], by rw [hf, sp_I_1, sp_A_1]⟩)
                | (have hf : f_copy A x1 x2 x3 x4 x5 = 5 := by unfold f_copy; rw [if_pos h4, if_pos h11, na, nb, if_pos (Int32.not_lt.mp h23), if_pos h32, if_neg h53]
                   exact ⟨by rw [hf, sp_val_5], by rw [hf, sp_I_5, sp_A_5]⟩)
                | (have hf : f_copy A x1 x2 x3 x4 x5 = 2 := by unfold f_copy; rw [if_pos h4, if_pos h11, na, nb, if_pos (Int32.not_lt.mp h23), if_pos h32, if_pos h53, if_neg h70]
                   exact ⟨by rw [hf, sp_val_2], by rw [hf, sp_I_2, sp_A_2]⟩)
                | (have hf : f_copy A x1 x2 x3 x4 x5 = 2 := by unfold f_copy; rw [if_pos h4, if_pos h11, na, nb, if_pos (Int32.not_lt.mp h23), if_pos h32, if_pos h53, if_pos h70, if_neg h82]
                   exact ⟨by rw [hf, sp_val_2], by rw [hf, sp_I_2, sp_A_2]⟩)
          · skip
            refine nk_aload_n (i := 0) dX8_copy_56 rfl rfl ?_
            refine nk_iconst (v := 5) dX8_copy_57 (by decide) ?_
            refine nk_cVi kX8_50 (s_X8_find hi) dX8_copy_58 mh_0 rfl rfl (by decide) (Nat.le_of_ble_eq_true rfl) ?_
            refine nk_ireturn dX8_copy_61 rfl ?_
            first
            | (have hf : f_copy A x1 x2 x3 x4 x5 = (-1) := by unfold f_copy; rw [if_neg h4]
               exact ⟨by rw [hf, sp_val_b], by rw [hf, sp_I_b, sp_A_b]⟩)
            | (have hf : f_copy A x1 x2 x3 x4 x5 = (-1) := by unfold f_copy; rw [if_pos h4, if_neg h11]
               exact ⟨by rw [hf, sp_val_b], by rw [hf, sp_I_b, sp_A_b]⟩)
            | (have hf : f_copy A x1 x2 x3 x4 x5 = 1 := by unfold f_copy; rw [if_pos h4, if_pos h11, na, if_neg (Int32.not_le.mpr h23)]
               exact ⟨by rw [hf, sp_val_1], by rw [hf, sp_I_1, sp_A_1]⟩)
            | (have hf : f_copy A x1 x2 x3 x4 x5 = 1 := by unfold f_copy; rw [if_pos h4, if_pos h11, na, nb, if_pos (Int32.not_lt.mp h23), if_neg h32]
               exact ⟨by rw [hf, sp_val_1], by rw [hf, sp_I_1, sp_A_1]⟩)
            | (have hf : f_copy A x1 x2 x3 x4 x5 = 5 := by unfold f_copy; rw [if_pos h4, if_pos h11, na, nb, if_pos (Int32.not_lt.mp h23), if_pos h32, if_neg h53]
               exact ⟨by rw [hf, sp_val_5], by rw [hf, sp_I_5, sp_A_5]⟩)
            | (have hf : f_copy A x1 x2 x3 x4 x5 = 2 := by unfold f_copy; rw [if_pos h4, if_pos h11, na, nb, if_pos (Int32.not_lt.mp h23), if_pos h32, if_pos h53, if_neg h70]
               exact ⟨by rw [hf, sp_val_2], by rw [hf, sp_I_2, sp_A_2]⟩)
            | (have hf : f_copy A x1 x2 x3 x4 x5 = 2 := by unfold f_copy; rw [if_pos h4, if_pos h11, na, nb, if_pos (Int32.not_lt.mp h23), if_pos h32, if_pos h53, if_pos h70, if_neg h82]
               exact ⟨by rw [hf, sp_val_2], by rw [hf, sp_I_2, sp_A_2]⟩)
        · skip
          refine nk_aload_n (i := 0) dX8_copy_35 rfl rfl ?_
          refine nk_iconst (v := 1) dX8_copy_36 (by decide) ?_
          refine nk_cVi kX8_50 (s_X8_find hi) dX8_copy_37 mh_0 rfl rfl (by decide) (Nat.le_of_ble_eq_true rfl) ?_
          refine nk_ireturn dX8_copy_40 rfl ?_
          first
          | (have hf : f_copy A x1 x2 x3 x4 x5 = (-1) := by unfold f_copy; rw [if_neg h4]
             exact ⟨by rw [hf, sp_val_b], by rw [hf, sp_I_b, sp_A_b]⟩)
          | (have hf : f_copy A x1 x2 x3 x4 x5 = (-1) := by unfold f_copy; rw [if_pos h4, if_neg h11]
             exact ⟨by rw [hf, sp_val_b], by rw [hf, sp_I_b, sp_A_b]⟩)
          | (have hf : f_copy A x1 x2 x3 x4 x5 = 1 := by unfold f_copy; rw [if_pos h4, if_pos h11, na, if_neg (Int32.not_le.mpr h23)]
             exact ⟨by rw [hf, sp_val_1], by rw [hf, sp_I_1, sp_A_1]⟩)
          | (have hf : f_copy A x1 x2 x3 x4 x5 = 1 := by unfold f_copy; rw [if_pos h4, if_pos h11, na, nb, if_pos (Int32.not_lt.mp h23), if_neg h32]
             exact ⟨by rw [hf, sp_val_1], by rw [hf, sp_I_1, sp_A_1]⟩)
          | (have hf : f_copy A x1 x2 x3 x4 x5 = 5 := by unfold f_copy; rw [if_pos h4, if_pos h11, na, nb, if_pos (Int32.not_lt.mp h23), if_pos h32, if_neg h53]
             exact ⟨by rw [hf, sp_val_5], by rw [hf, sp_I_5, sp_A_5]⟩)
          | (have hf : f_copy A x1 x2 x3 x4 x5 = 2 := by unfold f_copy; rw [if_pos h4, if_pos h11, na, nb, if_pos (Int32.not_lt.mp h23), if_pos h32, if_pos h53, if_neg h70]
             exact ⟨by rw [hf, sp_val_2], by rw [hf, sp_I_2, sp_A_2]⟩)
          | (have hf : f_copy A x1 x2 x3 x4 x5 = 2 := by unfold f_copy; rw [if_pos h4, if_pos h11, na, nb, if_pos (Int32.not_lt.mp h23), if_pos h32, if_pos h53, if_pos h70, if_neg h82]
             exact ⟨by rw [hf, sp_val_2], by rw [hf, sp_I_2, sp_A_2]⟩)
    · skip
      simp only [nk_b0, Int32.toInt_toInt64, Classical.not_not, nk_l0, nk_l1, nk_l2, nk_l255] at h11
      refine nk_ldc qX8_49 dX8_copy_14 ?_
      refine nk_ireturn dX8_copy_16 rfl ?_
      first
      | (have hf : f_copy A x1 x2 x3 x4 x5 = (-1) := by unfold f_copy; rw [if_neg h4]
         exact ⟨by rw [hf, sp_val_b], by rw [hf, sp_I_b, sp_A_b]⟩)
      | (have hf : f_copy A x1 x2 x3 x4 x5 = (-1) := by unfold f_copy; rw [if_pos h4, if_neg h11]
         exact ⟨by rw [hf, sp_val_b], by rw [hf, sp_I_b, sp_A_b]⟩)
      | (have hf : f_copy A x1 x2 x3 x4 x5 = 1 := by unfold f_copy; rw [if_pos h4, if_pos h11, na, if_neg (Int32.not_le.mpr h23)]
         exact ⟨by rw [hf, sp_val_1], by rw [hf, sp_I_1, sp_A_1]⟩)
      | (have hf : f_copy A x1 x2 x3 x4 x5 = 1 := by unfold f_copy; rw [if_pos h4, if_pos h11, na, nb, if_pos (Int32.not_lt.mp h23), if_neg h32]
         exact ⟨by rw [hf, sp_val_1], by rw [hf, sp_I_1, sp_A_1]⟩)
      | (have hf : f_copy A x1 x2 x3 x4 x5 = 5 := by unfold f_copy; rw [if_pos h4, if_pos h11, na, nb, if_pos (Int32.not_lt.mp h23), if_pos h32, if_neg h53]
         exact ⟨by rw [hf, sp_val_5], by rw [hf, sp_I_5, sp_A_5]⟩)
      | (have hf : f_copy A x1 x2 x3 x4 x5 = 2 := by unfold f_copy; rw [if_pos h4, if_pos h11, na, nb, if_pos (Int32.not_lt.mp h23), if_pos h32, if_pos h53, if_neg h70]
         exact ⟨by rw [hf, sp_val_2], by rw [hf, sp_I_2, sp_A_2]⟩)
      | (have hf : f_copy A x1 x2 x3 x4 x5 = 2 := by unfold f_copy; rw [if_pos h4, if_pos h11, na, nb, if_pos (Int32.not_lt.mp h23), if_pos h32, if_pos h53, if_pos h70, if_neg h82]
         exact ⟨by rw [hf, sp_val_2], by rw [hf, sp_I_2, sp_A_2]⟩)

/-! the reference: draws -/
set_option maxRecDepth 20000 in
theorem l_X8_drawn {G : nk_EG} {ad : Nat → Nat} {A : Nat → Nat → Int32} {I : Nat → Int32} (hi : mInj ad) {m b N : Nat} {x2 x3 : Int32} {T : Nat → Int32} {Φ : Option Value → nk_AH → Prop} (hN : N ≤ 200) (h1m : 1 ≤ m) (hb0 : 0 < b) (kk : ∀ l4 l5 l6 : Option Value, nk_J G mX8_drawn 9 Φ 0 0 115 [some (.ref (ad 0)), some (.int (nI N)), some (.int x2), some (.int x3), l4, l5, l6] [] (mh ad (va_up A 0 T) I)) : ∀ (n : Nat) (k x : Nat) (F : Nat → Int32) (h1 : k ≤ N) (h2 : N < k + n) (h3 : x < 2147483647) (hm : mSh F 0 m b) (hT : dr_f m (nk_tp b) (N - k) x F = T), nk_J G mX8_drawn 9 (Φ) 0 0 62 [some (.ref (ad 0)), some (.int (nI N)), some (.int x2), some (.int x3), some (.long (lN x)), none, some (.int (nI k))] [] (mh ad (va_up A 0 F) I) := by
  intro n
  induction n with
  | zero => intro k x F h1 h2 h3 hm hT; omega
  | succ n ih =>
    intro k x F h1 h2 h3 hm hT
    have h4 := hm.2.2.1
    have h10 := hm.2.2.2
    have ht := nk_tp_le h10
    have htp : 0 < nk_tp b := by rw [nk_tp_pos hb0]; exact Nat.two_pow_pos b
    refine nk_iload dX8_drawn_62 rfl ?_
    refine nk_iload_n (i := 1) dX8_drawn_64 rfl rfl ?_
    refine nk_icmpge (tgt := 115) dX8_drawn_65 (by decide) (fun h65 => ?_) (fun h65 => ?_)
    · skip
      have e2 : k = N := Nat.le_antisymm h1 (nk_leI h65 (by omega) (by omega))
      subst e2
      rw [Nat.sub_self] at hT
      subst hT
      exact kk _ _ _
    · skip
      have hk := nk_nleI (a := N) h65 (by omega) (by omega)
      have hx1 := dr_x_lt x
      have hm4 := Nat.mod_lt (dr_x x) (show 0 < m by omega)
      have ht4 := Nat.mod_lt (dr_x x / 8) (show 0 < nk_tp b by omega)
      rw [dr_f_step hk] at hT
      refine nk_lload dX8_drawn_68 rfl ?_
      refine nk_ldc2 qX8_296 dX8_drawn_70 ?_
      refine nk_lmul dX8_drawn_73 ?_
      refine nk_ldc2 qX8_298 dX8_drawn_74 ?_
      refine nk_lrem dX8_drawn_77 (by decide) ?_
      refine nk_topl (y := lN (dr_x x)) (by rw [show (16807 : Int64) = lN 16807 from rfl, show (2147483647 : Int64) = lN 2147483647 from rfl, lN_mul, pk_lRem (by omega) (by omega) (by omega)]; rfl) ?_
      refine nk_lstoreT dX8_drawn_78 (by decide) ?_
      refine nk_aload_n (i := 0) dX8_drawn_80 rfl rfl ?_
      refine nk_iconst (v := 0) dX8_drawn_81 (by decide) ?_
      refine nk_lload dX8_drawn_82 rfl ?_
      refine nk_aload_n (i := 0) dX8_drawn_84 rfl rfl ?_
      refine nk_getf fX8_7 dX8_drawn_85 mh_0 rfl ?_
      refine nk_iconst (v := 0) dX8_drawn_88 (by decide) ?_
      refine nk_ialdN (j := 0) dX8_drawn_89 (mh_1 hi) (rfl) (by omega) (by decide) ?_
      rw [show va_up A 0 F 0 0 = nI m from hm.1]
      refine nk_i2l dX8_drawn_90 ?_
      refine nk_topl (y := lN m) (nI_l (by omega)) ?_
      refine nk_lrem dX8_drawn_91 (nk_lne0 (by omega) (by omega)) ?_
      refine nk_topl (y := lN ((dr_x x) % m)) (pk_lRem (by omega) (by omega) (by omega)) ?_
      refine nk_l2i dX8_drawn_92 ?_
      refine nk_top (y := nI ((dr_x x) % m)) (lN_i _) ?_
      refine nk_lload dX8_drawn_93 rfl ?_
      refine nk_ldc2 qX8_300 dX8_drawn_95 ?_
      refine nk_ldiv dX8_drawn_98 (by decide) ?_
      refine nk_topl (y := lN ((dr_x x) / 8)) (pk_lDiv (b := 8) (by omega) (by omega) (by omega)) ?_
      refine nk_aload_n (i := 0) dX8_drawn_99 rfl rfl ?_
      refine nk_cVi kX8_127 (s_X8_top hi (A := va_up A 0 F) hm.2.1 hm.2.2.2) dX8_drawn_100 mh_0 rfl rfl (by decide) (Nat.le_of_ble_eq_true rfl) ?_
      refine nk_i2l dX8_drawn_103 ?_
      refine nk_topl (y := lN (nk_tp b)) (nI_l (by omega)) ?_
      refine nk_lrem dX8_drawn_104 (nk_lne0 (by omega) (by omega)) ?_
      refine nk_topl (y := lN ((dr_x x) / 8 % nk_tp b)) (pk_lRem (by omega) (by omega) (by omega)) ?_
      refine nk_l2i dX8_drawn_105 ?_
      refine nk_top (y := nI ((dr_x x) / 8 % nk_tp b)) (lN_i _) ?_
      refine nk_cVv kX8_164 (s_X8_turnKey hi (base := 0) (s := (dr_x x) % m) (k := (dr_x x) / 8 % nk_tp b) (by omega) (by omega)) dX8_drawn_106 mh_0 rfl rfl (by decide) (Nat.le_of_ble_eq_true rfl) ?_
      refine nk_iincT dX8_drawn_109 rfl (nk_i1 k) (by decide) ?_
      refine nk_goto (tgt := 62) dX8_drawn_112 (by decide) ?_
      exact (ih (k + 1) (dr_x x) (a_tk F (dr_x x % m) (dr_x x / 8 % nk_tp b)) (by omega) (by omega) hx1 (mSh_lo hm (fun j hj => a_tk_lo (by omega))) hT).to rfl rfl (by rw [bx_uu]; rfl)
set_option maxHeartbeats 4000000 in
set_option maxRecDepth 20000 in
theorem s_X8_drawn {G : nk_EG} {ad : Nat → Nat} {A : Nat → Nat → Int32} {I : Nat → Int32} (hi : mInj ad) {m b : Nat} (hm : mSh (A 0) 0 m b) (h1m : 0 < b → 1 ≤ m) {x1 x2 x3 : Int32} : nk_Si G mX8_drawn 9 [.ref (ad 0), .int x1, .int x2, .int x3] (mh ad A I) (sp_drawn m b (va_cpy (A 0) (A 0) 0 3618 134) x1 x2 x3) (mh ad (if c_drawn b x1 x2 x3 then va_up A 0 (va_cpy (A 0) (A 0) 0 3618 134) else A) I) := by
  refine nk_S.of (by decide +kernel) (Nat.le_of_ble_eq_true rfl) rfl ?_
  refine nk_aload_n (i := 0) dX8_drawn_0 rfl rfl ?_
  refine nk_cVi kX8_124 (s_X8_isShelf hi hm.2.1 hm.2.2.2) dX8_drawn_1 mh_0 rfl rfl (by decide) (Nat.le_of_ble_eq_true rfl) ?_
  refine nk_ifne (tgt := 10) dX8_drawn_4 (by decide) (fun h4 => ?_) (fun h4 => ?_)
  · skip
    try simp only [nk_b0, Int32.toInt_toInt64, Classical.not_not, nk_l0, nk_l1, nk_l200, nk_l6] at h4
    refine nk_iload_n (i := 1) dX8_drawn_10 rfl rfl ?_
    refine nk_i2l dX8_drawn_11 ?_
    refine nk_lconst (v := 0) dX8_drawn_12 rfl ?_
    refine nk_ldc2 qX8_292 dX8_drawn_13 ?_
    refine nk_cSi kX8_39 (s_X8_in) dX8_drawn_16 rfl rfl (by decide) (Nat.le_of_ble_eq_true rfl) ?_
    refine nk_ifeq (tgt := 44) dX8_drawn_19 (by decide) (fun h19 => ?_) (fun h19 => ?_)
    · skip
      try simp only [nk_b0, Int32.toInt_toInt64, Classical.not_not, nk_l0, nk_l1, nk_l200, nk_l6] at h19
      refine nk_ldc qX8_49 dX8_drawn_44 ?_
      refine nk_ireturn dX8_drawn_46 rfl ?_
      have cc : ¬ c_drawn b x1 x2 x3 := fun z => by
        first
        | exact h19 z.2.1
        | exact h31 z.2.2.1
        | exact h41 z.2.2.2
      exact ⟨by unfold sp_drawn; rw [if_pos h4, if_neg cc], by rw [if_neg cc]⟩
    · skip
      try simp only [nk_b0, Int32.toInt_toInt64, Classical.not_not, nk_l0, nk_l1, nk_l200, nk_l6] at h19
      refine nk_iload_n (i := 2) dX8_drawn_22 rfl rfl ?_
      refine nk_i2l dX8_drawn_23 ?_
      refine nk_lconst (v := 1) dX8_drawn_24 rfl ?_
      refine nk_ldc2 qX8_294 dX8_drawn_25 ?_
      refine nk_cSi kX8_39 (s_X8_in) dX8_drawn_28 rfl rfl (by decide) (Nat.le_of_ble_eq_true rfl) ?_
      refine nk_ifeq (tgt := 44) dX8_drawn_31 (by decide) (fun h31 => ?_) (fun h31 => ?_)
      · skip
        try simp only [nk_b0, Int32.toInt_toInt64, Classical.not_not, nk_l0, nk_l1, nk_l200, nk_l6] at h31
        refine nk_ldc qX8_49 dX8_drawn_44 ?_
        refine nk_ireturn dX8_drawn_46 rfl ?_
        have cc : ¬ c_drawn b x1 x2 x3 := fun z => by
          first
          | exact h19 z.2.1
          | exact h31 z.2.2.1
          | exact h41 z.2.2.2
        exact ⟨by unfold sp_drawn; rw [if_pos h4, if_neg cc], by rw [if_neg cc]⟩
      · skip
        try simp only [nk_b0, Int32.toInt_toInt64, Classical.not_not, nk_l0, nk_l1, nk_l200, nk_l6] at h31
        refine nk_iload_n (i := 3) dX8_drawn_34 rfl rfl ?_
        refine nk_i2l dX8_drawn_35 ?_
        refine nk_lconst (v := 0) dX8_drawn_36 rfl ?_
        refine nk_lconst (v := 1) dX8_drawn_37 rfl ?_
        refine nk_cSi kX8_39 (s_X8_in) dX8_drawn_38 rfl rfl (by decide) (Nat.le_of_ble_eq_true rfl) ?_
        refine nk_ifne (tgt := 47) dX8_drawn_41 (by decide) (fun h41 => ?_) (fun h41 => ?_)
        · skip
          try simp only [nk_b0, Int32.toInt_toInt64, Classical.not_not, nk_l0, nk_l1, nk_l200, nk_l6] at h41
          obtain ⟨N, hN, hNe⟩ := nk_getR (x := x1) (n := 200) h19
          have hx0 : 0 ≤ x2.toInt ∧ x2.toInt ≤ (999999 : Nat) := ⟨by omega, h31.2⟩
          obtain ⟨x, hx, hxe⟩ := nk_getR hx0
          have nN : sp_n x1 = N := by rw [hNe, sp_n_nI (by omega)]
          have nx : sp_n x2 = x := by rw [hxe, sp_n_nI (by omega)]
          have cc : c_drawn b x1 x2 x3 := ⟨h4, h19, h31, h41⟩
          unfold sp_drawn
          rw [if_pos h4, if_pos cc, if_pos cc, nN, nx]
          rw [hNe, hxe]
          have htp : 0 < nk_tp b := by rw [nk_tp_pos h4]; exact Nat.two_pow_pos b
          have hm2 : mSh (va_cpy (A 0) (A 0) 0 3618 134) 0 m b := mSh_lo hm (fun j hj => va_cpy_out (by omega))
          refine nk_aload_n (i := 0) dX8_drawn_47 rfl rfl ?_
          refine nk_iconst (v := 0) dX8_drawn_48 (by decide) ?_
          refine nk_sipush (v := 3618) dX8_drawn_49 (by decide) ?_
          refine nk_cVv kX8_117 (s_X8_copyShelf hi (a := 0) (b := 3618) (by omega) (by omega) (by omega)) dX8_drawn_52 mh_0 rfl rfl (by decide) (Nat.le_of_ble_eq_true rfl) ?_
          refine nk_iload_n (i := 2) dX8_drawn_55 rfl rfl ?_
          refine nk_i2l dX8_drawn_56 ?_
          refine nk_topl (y := lN x) (nI_l (by omega)) ?_
          refine nk_lstoreT dX8_drawn_57 (by decide) ?_
          refine nk_iconst (v := 0) dX8_drawn_59 (by decide) ?_
          refine nk_istoreT dX8_drawn_60 (by decide) ?_
          refine l_X8_drawn (A := A) hi hN (h1m h4) h4 (fun l4 l5 l6 => ?_) (N + 1) 0 x (va_cpy (A 0) (A 0) 0 3618 134) (by omega) (by omega) (by omega) hm2 rfl
          rw [Nat.sub_zero]
          have hmT : mSh (dr_f m (nk_tp b) N x (va_cpy (A 0) (A 0) 0 3618 134)) 0 m b := mSh_lo hm2 (fun j hj => dr_f_lo (by omega) _ _ _)
          have hhi : ∀ j, 134 ≤ j → dr_f m (nk_tp b) N x (va_cpy (A 0) (A 0) 0 3618 134) j = va_cpy (A 0) (A 0) 0 3618 134 j := fun j hj => dr_f_hi (h1m h4) hm.2.2.1 htp (nk_tp_le hm.2.2.2) hj _ _ _
          refine nk_iload_n (i := 3) dX8_drawn_115 rfl rfl ?_
          refine nk_ifne (tgt := 126) dX8_drawn_116 (by decide) (fun h116 => ?_) (fun h116 => ?_)
          · skip
            refine nk_aload_n (i := 0) dX8_drawn_126 rfl rfl ?_
            refine nk_cVi kX8_305 (s_X8_allNodes hi (A := va_up A 0 (dr_f m (nk_tp b) N x (va_cpy (A 0) (A 0) 0 3618 134))) hmT) dX8_drawn_127 mh_0 rfl rfl (by decide) (Nat.le_of_ble_eq_true rfl) ?_
            refine nk_istoreT dX8_drawn_130 (by decide) ?_
            refine nk_aload_n (i := 0) dX8_drawn_132 rfl rfl ?_
            refine nk_sipush (v := 3618) dX8_drawn_133 (by decide) ?_
            refine nk_iconst (v := 0) dX8_drawn_136 (by decide) ?_
            refine nk_cVv kX8_117 (s_X8_copyShelf hi (a := 3618) (b := 0) (by omega) (by omega) (by omega)) dX8_drawn_137 mh_0 rfl rfl (by decide) (Nat.le_of_ble_eq_true rfl) ?_
            refine nk_iload dX8_drawn_140 rfl ?_
            refine nk_ireturn dX8_drawn_142 rfl ?_
            first
            | exact ⟨by rw [if_pos h116]; rfl, by rw [bx_uu, show va_up A 0 (dr_f m (nk_tp b) N x (va_cpy (A 0) (A 0) 0 3618 134)) 0 = dr_f m (nk_tp b) N x (va_cpy (A 0) (A 0) 0 3618 134) from rfl, dr_back hhi]⟩
            | exact ⟨by rw [if_neg h116]; rfl, by rw [bx_uu, show va_up A 0 (dr_f m (nk_tp b) N x (va_cpy (A 0) (A 0) 0 3618 134)) 0 = dr_f m (nk_tp b) N x (va_cpy (A 0) (A 0) 0 3618 134) from rfl, dr_back hhi]⟩
          · skip
            refine nk_aload_n (i := 0) dX8_drawn_119 rfl rfl ?_
            refine nk_cVi kX8_302 (s_X8_allKeys hi (A := va_up A 0 (dr_f m (nk_tp b) N x (va_cpy (A 0) (A 0) 0 3618 134))) hmT) dX8_drawn_120 mh_0 rfl rfl (by decide) (Nat.le_of_ble_eq_true rfl) ?_
            refine nk_goto (tgt := 130) dX8_drawn_123 (by decide) ?_
            refine nk_istoreT dX8_drawn_130 (by decide) ?_
            refine nk_aload_n (i := 0) dX8_drawn_132 rfl rfl ?_
            refine nk_sipush (v := 3618) dX8_drawn_133 (by decide) ?_
            refine nk_iconst (v := 0) dX8_drawn_136 (by decide) ?_
            refine nk_cVv kX8_117 (s_X8_copyShelf hi (a := 3618) (b := 0) (by omega) (by omega) (by omega)) dX8_drawn_137 mh_0 rfl rfl (by decide) (Nat.le_of_ble_eq_true rfl) ?_
            refine nk_iload dX8_drawn_140 rfl ?_
            refine nk_ireturn dX8_drawn_142 rfl ?_
            first
            | exact ⟨by rw [if_pos h116]; rfl, by rw [bx_uu, show va_up A 0 (dr_f m (nk_tp b) N x (va_cpy (A 0) (A 0) 0 3618 134)) 0 = dr_f m (nk_tp b) N x (va_cpy (A 0) (A 0) 0 3618 134) from rfl, dr_back hhi]⟩
            | exact ⟨by rw [if_neg h116]; rfl, by rw [bx_uu, show va_up A 0 (dr_f m (nk_tp b) N x (va_cpy (A 0) (A 0) 0 3618 134)) 0 = dr_f m (nk_tp b) N x (va_cpy (A 0) (A 0) 0 3618 134) from rfl, dr_back hhi]⟩
        · skip
          try simp only [nk_b0, Int32.toInt_toInt64, Classical.not_not, nk_l0, nk_l1, nk_l200, nk_l6] at h41
          refine nk_ldc qX8_49 dX8_drawn_44 ?_
          refine nk_ireturn dX8_drawn_46 rfl ?_
          have cc : ¬ c_drawn b x1 x2 x3 := fun z => by
            first
            | exact h19 z.2.1
            | exact h31 z.2.2.1
            | exact h41 z.2.2.2
          exact ⟨by unfold sp_drawn; rw [if_pos h4, if_neg cc], by rw [if_neg cc]⟩
  · skip
    try simp only [nk_b0, Int32.toInt_toInt64, Classical.not_not, nk_l0, nk_l1, nk_l200, nk_l6] at h4
    refine nk_ldc qX8_153 dX8_drawn_7 ?_
    refine nk_ireturn dX8_drawn_9 rfl ?_
    have cc : ¬ c_drawn b x1 x2 x3 := fun z => h4 z.1
    exact ⟨by unfold sp_drawn; rw [if_neg h4], by rw [if_neg cc]⟩

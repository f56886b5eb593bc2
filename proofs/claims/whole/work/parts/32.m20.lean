/-! the reference: a set is read -/
theorem nk_ix18 (n : Nat) {k : Nat} (h : k < 2 ^ 31) : 3624 + 32 * nI n + nI k / 32 = nI (3618 + (6 + 32 * n + k / 32)) := by
  rw [nk_d32 h, show (3624 : Int32) = nI 3624 from rfl, show (32 : Int32) = nI 32 from rfl, pk_mul, nI_add, nI_add]
  congr 1; omega
theorem nk_ix19 (n : Nat) : 3624 + 32 * nI n + 0 = nI (3618 + (6 + 32 * n)) := by
  rw [show (3624 : Int32) = nI 3624 from rfl, show (32 : Int32) = nI 32 from rfl, pk_mul, show (0 : Int32) = nI 0 from rfl, nI_add, nI_add]
  congr 1; omega
theorem nk_ix20 (n : Nat) : 3620 + nI n = nI (3618 + (2 + n)) := by
  rw [show (3620 : Int32) = nI 3620 from rfl, nI_add]
  congr 1; omega
theorem nk_pw {bt : Nat} (h : bt ≤ 10) : (1 : Int32) <<< (nI bt &&& 31) - 1 = nI (2 ^ bt - 1) := by
  rw [nk_sh1 (by omega)]
  exact pk_sub Nat.one_le_two_pow
theorem tz_v {A : Nat → Nat → Int32} {F f : Nat → Int32} {k : Nat} (h : k < 134) : (va_up A 0 (tz F f)) 0 (3618 + k) = f k := by
  rw [show (va_up A 0 (tz F f)) 0 = tz F f from rfl]; exact tz_at h
theorem tp_or_lo {f : Nat → Int32} {n k j : Nat} (h : j < 6) : tp_or f n k j = f j := by unfold tp_or upd; rw [if_neg (by omega)]
set_option maxRecDepth 20000 in
theorem t_readsSet1 {G : nk_EG} {ad : Nat → Nat} {A : Nat → Nat → Int32} {I : Nat → Int32} {F f : Nat → Int32} (hi : mInj ad) {l : Nat} (hl : I 1 = nI l) (h110 : l ≤ 110) {a n : Nat} (hal : a ≤ l) (hn : f 0 = nI n) (hn4 : n < 4) (y z : Int32) {R : Nat × Nat × (Nat → Int32)} (h0 : tp_is (A 5) l a 59 → R = (0, a + 1, f)) (h1 : ¬ tp_is (A 5) l a 59 → R = (1, a, f)) {l3 : Option Value} : nk_J G mX8_readsSet 4 (ph_rd ad A I F R.1 R.2.1 (fun f' => f' = upd R.2.2 0 (nI (n + 1)))) 0 0 141 [some (.ref (ad 0)), some (.int (nI n)), some (.int 1), l3] [] (mh ad (va_up A 0 (tz F f)) (i3 I (nI a) y z)) := by
  refine nk_aload_n (i := 0) dX8_readsSet_141 rfl rfl ?_
  refine nk_getf fX8_7 dX8_readsSet_142 mh_0 rfl ?_
  refine nk_sipush (v := 3618) dX8_readsSet_145 (by decide) ?_
  refine nk_dup2 dX8_readsSet_148 rfl rfl ?_
  refine nk_ialdN (j := 3618 + 0) dX8_readsSet_149 (mh_1 hi) (rfl) (by omega) (by decide) ?_
  refine nk_iconst (v := 1) dX8_readsSet_150 (by decide) ?_
  refine nk_iadd dX8_readsSet_151 ?_
  refine nk_top (y := nI (n + 1)) (by rw [show (va_up A 0 (tz F f)) 0 (3618 + 0) = f 0 from tz_v (by omega), hn]; exact nI_1 n) ?_
  refine nk_iastN (j := 3618 + 0) dX8_readsSet_152 (mh_1 hi) (rfl) (by omega) (by decide) ?_
  refine nk_J.to ?_ rfl rfl (mu_A0 hi)
  rw [bx_uu, show (va_up A 0 (tz F f)) 0 = tz F f from rfl, tz_upd (by omega)]
  refine nk_iload_n (i := 2) dX8_readsSet_153 rfl rfl ?_
  refine nk_ifeq (tgt := 170) dX8_readsSet_154 (by decide) (fun h154 => by first | exact absurd h154 (by decide) | exact absurd (by decide) h154) (fun _ => ?_)
  refine nk_aload_n (i := 0) dX8_readsSet_157 rfl rfl ?_
  refine nk_bipush (v := 59) dX8_readsSet_158 (by decide) ?_
  refine nk_cVi kX8_93 (s_sign3 (A := va_up A 0 (tz F (upd f 0 (nI (n + 1))))) (I := I) hi hl h110 hal) dX8_readsSet_160 mh_0 rfl rfl (by decide) (Nat.le_of_ble_eq_true rfl) ?_
  refine nk_ifeq (tgt := 170) dX8_readsSet_163 (by decide) (fun h163 => ?_) (fun h163 => ?_)
  · skip
    simp only [nk_b0, Classical.not_not] at h163
    refine nk_iconst (v := 0) dX8_readsSet_170 (by decide) ?_
    refine nk_zreturn dX8_readsSet_171 rfl rfl ?_
    first
    | (have c : tp_is (A 5) l a 59 := h163
       rw [h0 c]
       exact ⟨y, z, _, rfl, by unfold tp_sg; exact congrArg (mh ad _) (if_pos c), fun q => absurd rfl q, fun _ => rfl⟩)
    | (have c : ¬ tp_is (A 5) l a 59 := h163
       rw [h1 c]
       exact ⟨1, z, _, rfl, by unfold tp_sg; exact congrArg (mh ad _) (if_neg c), fun _ => rfl, fun q => by cases q⟩)
  · skip
    simp only [nk_b0, Classical.not_not] at h163
    refine nk_iconst (v := 1) dX8_readsSet_166 (by decide) ?_
    refine nk_goto (tgt := 171) dX8_readsSet_167 (by decide) ?_
    refine nk_zreturn dX8_readsSet_171 rfl rfl ?_
    first
    | (have c : tp_is (A 5) l a 59 := h163
       rw [h0 c]
       exact ⟨y, z, _, rfl, by unfold tp_sg; exact congrArg (mh ad _) (if_pos c), fun q => absurd rfl q, fun _ => rfl⟩)
    | (have c : ¬ tp_is (A 5) l a 59 := h163
       rw [h1 c]
       exact ⟨1, z, _, rfl, by unfold tp_sg; exact congrArg (mh ad _) (if_neg c), fun _ => rfl, fun q => by cases q⟩)
set_option maxRecDepth 20000 in
theorem l_readsSet {G : nk_EG} {ad : Nat → Nat} {A : Nat → Nat → Int32} {I : Nat → Int32} {F : Nat → Int32} (hi : mInj ad) {l : Nat} (hl : I 1 = nI l) (h110 : l ≤ 110) {n_ bt : Nat} {R : Nat × Nat × (Nat → Int32)} (hn4 : n_ < 4) (hbt : bt ≤ 10) : ∀ (n : Nat) (a : Nat) (f : Nat → Int32) (y z : Int32) (h1 : a < l) (h2 : l < a + n) (hn : f 0 = nI n_) (hb : f 1 = nI bt) (hT : tp_ks (A 5) l (2 ^ bt - 1) n_ n a f = R), nk_J G mX8_readsSet 4 (ph_rd ad A I F R.1 R.2.1 (fun f' => f' = upd R.2.2 0 (nI (n_ + 1)))) 0 0 54 [some (.ref (ad 0)), some (.int (nI n_)), some (.int 1), some (.int 1)] [] (mh ad (va_up A 0 (tz F f)) (i3 I (nI a) y z)) := by
  intro n
  induction n with
  | zero => intro a f y z h1 h2 hn hb hT; omega
  | succ n ih =>
    intro a f y z h1 h2 hn hb hT
    have hb2 := nk_2b hbt
    have hp1 : 1 ≤ 2 ^ bt := Nat.one_le_two_pow
    refine nk_aload_n (i := 0) dX8_readsSet_54 rfl rfl ?_
    refine nk_dup dX8_readsSet_55 rfl ?_
    refine nk_getf fX8_71 dX8_readsSet_56 mh_0 rfl ?_
    refine nk_iconst (v := 1) dX8_readsSet_59 (by decide) ?_
    refine nk_iadd dX8_readsSet_60 ?_
    refine nk_top (y := nI (a + 1)) (nI_1 a) ?_
    refine nk_putf pX8_71 dX8_readsSet_61 mh_0 rfl rfl (Nat.le_of_ble_eq_true rfl) rfl ?_
    refine nk_J.to ?_ rfl rfl mu_I5
    rw [i3_5]
    refine nk_aload_n (i := 0) dX8_readsSet_64 rfl rfl ?_
    refine nk_iconst (v := 0) dX8_readsSet_65 (by decide) ?_
    refine nk_iconst (v := 1) dX8_readsSet_66 (by decide) ?_
    refine nk_aload_n (i := 0) dX8_readsSet_67 rfl rfl ?_
    refine nk_getf fX8_7 dX8_readsSet_68 mh_0 rfl ?_
    refine nk_sipush (v := 3619) dX8_readsSet_71 (by decide) ?_
    refine nk_ialdN (j := 3618 + 1) dX8_readsSet_74 (mh_1 hi) (rfl) (by omega) (by decide) ?_
    refine nk_ishl dX8_readsSet_75 ?_
    refine nk_iconst (v := 1) dX8_readsSet_76 (by decide) ?_
    refine nk_isub dX8_readsSet_77 ?_
    refine nk_top (y := nI (2 ^ bt - 1)) (by rw [show (va_up A 0 (tz F f)) 0 (3618 + 1) = f 1 from tz_v (by omega), hb]; exact nk_pw hbt) ?_
    refine nk_cVi kX8_96 (s_num3 (A := (va_up A 0 (tz F f))) (I := I) hi hl h110 (a := a + 1) (lo := 0) (hi2 := 2 ^ bt - 1) (by omega) (by omega) (by omega)) dX8_readsSet_78 mh_0 rfl rfl (by decide) (Nat.le_of_ble_eq_true rfl) ?_
    by_cases hf : tp_f (A 5) l (a + 1) 0 (2 ^ bt - 1) = 0
    · have e1 : tp_rn I (va_up A 0 (tz F f) 5) l (a + 1) 0 (2 ^ bt - 1) y z = i3 I (nI (tp_end (A 5) l (a + 1))) y (nI (tp_num (A 5) l (a + 1))) := by unfold tp_rn; exact if_pos hf
      rw [e1]
      refine nk_top (y := 1) (if_pos hf) ?_
      have hone := tp_f_one hf
      have hnum := tp_num_le hone.1
      have hend := tp_end_le hone.1
      refine nk_istore_nT (i := 2) dX8_readsSet_81 rfl (by decide) ?_
      refine nk_aload_n (i := 0) dX8_readsSet_82 rfl rfl ?_
      refine nk_getf fX8_7 dX8_readsSet_83 mh_0 rfl ?_
      refine nk_sipush (v := 3624) dX8_readsSet_86 (by decide) ?_
      refine nk_bipush (v := 32) dX8_readsSet_89 (by decide) ?_
      refine nk_iload_n (i := 1) dX8_readsSet_91 rfl rfl ?_
      refine nk_imul dX8_readsSet_92 ?_
      refine nk_iadd dX8_readsSet_93 ?_
      refine nk_iload_n (i := 2) dX8_readsSet_94 rfl rfl ?_
      refine nk_ifeq (tgt := 108) dX8_readsSet_95 (by decide) (fun h95 => by first | exact absurd h95 (by decide) | exact absurd (by decide) h95) (fun _ => ?_)
      refine nk_aload_n (i := 0) dX8_readsSet_98 rfl rfl ?_
      refine nk_getf fX8_90 dX8_readsSet_99 mh_0 rfl ?_
      refine nk_bipush (v := 32) dX8_readsSet_102 (by decide) ?_
      refine nk_idiv dX8_readsSet_104 (by decide) ?_
      refine nk_goto (tgt := 109) dX8_readsSet_105 (by decide) ?_
      refine nk_iadd dX8_readsSet_109 ?_
      refine nk_dup2 dX8_readsSet_110 rfl rfl ?_
      refine nk_ialdN (j := 3618 + (6 + 32 * n_ + tp_num (A 5) l (a + 1) / 32)) dX8_readsSet_111 (mh_1 hi) (nk_ix18 n_ (by omega)) (by omega) (by decide) ?_
      refine nk_iload_n (i := 2) dX8_readsSet_112 rfl rfl ?_
      refine nk_ifeq (tgt := 128) dX8_readsSet_113 (by decide) (fun h113 => by first | exact absurd h113 (by decide) | exact absurd (by decide) h113) (fun _ => ?_)
      refine nk_iconst (v := 1) dX8_readsSet_116 (by decide) ?_
      refine nk_aload_n (i := 0) dX8_readsSet_117 rfl rfl ?_
      refine nk_getf fX8_90 dX8_readsSet_118 mh_0 rfl ?_
      refine nk_bipush (v := 32) dX8_readsSet_121 (by decide) ?_
      refine nk_irem dX8_readsSet_123 (by decide) ?_
      refine nk_top (y := nI (tp_num (A 5) l (a + 1) % 32)) (nk_r32 (by omega)) ?_
      refine nk_ishl dX8_readsSet_124 ?_
      refine nk_goto (tgt := 129) dX8_readsSet_125 (by decide) ?_
      refine nk_ior dX8_readsSet_129 ?_
      refine nk_top (y := f (6 + 32 * n_ + tp_num (A 5) l (a + 1) / 32) ||| pf_b1 (tp_num (A 5) l (a + 1) % 32)) (by rw [show (va_up A 0 (tz F f)) 0 (3618 + (6 + 32 * n_ + tp_num (A 5) l (a + 1) / 32)) = f (6 + 32 * n_ + tp_num (A 5) l (a + 1) / 32) from tz_v (by omega)]; rfl) ?_
      refine nk_iastN (j := 3618 + (6 + 32 * n_ + tp_num (A 5) l (a + 1) / 32)) dX8_readsSet_130 (mh_1 hi) (nk_ix18 n_ (by omega)) (by omega) (by decide) ?_
      refine nk_J.to ?_ rfl rfl (mu_A0 hi)
      rw [bx_uu, show (va_up A 0 (tz F f)) 0 = tz F f from rfl, tz_upd (by omega)]
      have hor : upd f (6 + 32 * n_ + tp_num (A 5) l (a + 1) / 32) (f (6 + 32 * n_ + tp_num (A 5) l (a + 1) / 32) ||| pf_b1 (tp_num (A 5) l (a + 1) % 32)) = tp_or f n_ (tp_num (A 5) l (a + 1)) := rfl
      rw [hor]
      refine nk_aload_n (i := 0) dX8_readsSet_131 rfl rfl ?_
      refine nk_bipush (v := 44) dX8_readsSet_132 (by decide) ?_
      refine nk_cVi kX8_81 (s_X8_isLetter (A := va_up A 0 (tz F (tp_or f n_ (tp_num (A 5) l (a + 1))))) (I := i3 I (nI (tp_end (A 5) l (a + 1))) y (nI (tp_num (A 5) l (a + 1)))) hi hl h110 rfl hend.1) dX8_readsSet_134 mh_0 rfl rfl (by decide) (Nat.le_of_ble_eq_true rfl) ?_
      refine nk_istore_nT (i := 3) dX8_readsSet_137 rfl (by decide) ?_
      refine nk_goto (tgt := 46) dX8_readsSet_138 (by decide) ?_
      refine nk_iload_n (i := 2) dX8_readsSet_46 rfl rfl ?_
      refine nk_ifeq (tgt := 141) dX8_readsSet_47 (by decide) (fun h47 => by first | exact absurd h47 (by decide) | exact absurd (by decide) h47) (fun _ => ?_)
      refine nk_iload_n (i := 3) dX8_readsSet_50 rfl rfl ?_
      refine nk_ifeq (tgt := 141) dX8_readsSet_51 (by decide) (fun h51 => ?_) (fun h51 => ?_)
      · skip
        simp only [nk_b0, Classical.not_not] at h51
        have c : ¬ tp_is (A 5) l (tp_end (A 5) l (a + 1)) 44 := h51
        exact t_readsSet1 hi hl h110 hend.1 ((tp_or_lo (by omega)).trans hn) hn4 y _ (fun c2 => by rw [← hT, tp_ks_s hf c c2]) (fun c2 => by rw [← hT, tp_ks_x hf c c2])
      · skip
        simp only [nk_b0, Classical.not_not] at h51
        have c : tp_is (A 5) l (tp_end (A 5) l (a + 1)) 44 := h51
        rw [tp_ks_c hf c] at hT
        exact (ih (tp_end (A 5) l (a + 1)) (tp_or f n_ (tp_num (A 5) l (a + 1))) y _ c.1 (by omega) ((tp_or_lo (by omega)).trans hn) ((tp_or_lo (by omega)).trans hb) hT).to (by rw [if_pos h51]; rfl) rfl rfl
    · have e1 : tp_rn I (va_up A 0 (tz F f) 5) l (a + 1) 0 (2 ^ bt - 1) y z = i3 I (nI (a + 1)) (nI (tp_f (A 5) l (a + 1) 0 (2 ^ bt - 1))) (if tp_one (A 5) l (a + 1) then nI (tp_num (A 5) l (a + 1)) else z) := by unfold tp_rn; exact if_neg hf
      rw [e1]
      refine nk_top (y := 0) (if_neg hf) ?_
      rw [tp_ks_0 hf] at hT
      subst hT
      refine nk_istore_nT (i := 2) dX8_readsSet_81 rfl (by decide) ?_
      refine nk_aload_n (i := 0) dX8_readsSet_82 rfl rfl ?_
      refine nk_getf fX8_7 dX8_readsSet_83 mh_0 rfl ?_
      refine nk_sipush (v := 3624) dX8_readsSet_86 (by decide) ?_
      refine nk_bipush (v := 32) dX8_readsSet_89 (by decide) ?_
      refine nk_iload_n (i := 1) dX8_readsSet_91 rfl rfl ?_
      refine nk_imul dX8_readsSet_92 ?_
      refine nk_iadd dX8_readsSet_93 ?_
      refine nk_iload_n (i := 2) dX8_readsSet_94 rfl rfl ?_
      refine nk_ifeq (tgt := 108) dX8_readsSet_95 (by decide) (fun _ => ?_) (fun h95 => by first | exact absurd (rfl) h95 | exact absurd h95 (rfl))
      refine nk_iconst (v := 0) dX8_readsSet_108 (by decide) ?_
      refine nk_iadd dX8_readsSet_109 ?_
      refine nk_dup2 dX8_readsSet_110 rfl rfl ?_
      refine nk_ialdN (j := 3618 + (6 + 32 * n_)) dX8_readsSet_111 (mh_1 hi) (nk_ix19 n_) (by omega) (by decide) ?_
      refine nk_iload_n (i := 2) dX8_readsSet_112 rfl rfl ?_
      refine nk_ifeq (tgt := 128) dX8_readsSet_113 (by decide) (fun _ => ?_) (fun h113 => by first | exact absurd (rfl) h113 | exact absurd h113 (rfl))
      refine nk_iconst (v := 0) dX8_readsSet_128 (by decide) ?_
      refine nk_ior dX8_readsSet_129 ?_
      refine nk_iastN (j := 3618 + (6 + 32 * n_)) dX8_readsSet_130 (mh_1 hi) (nk_ix19 n_) (by omega) (by decide) ?_
      refine nk_J.to ?_ rfl rfl (mu_A0 hi)
      rw [bx_uu, show (va_up A 0 (tz F f)) 0 = tz F f from rfl, tz_upd (by omega)]
      generalize upd f (6 + 32 * n_) _ = f2
      refine nk_aload_n (i := 0) dX8_readsSet_131 rfl rfl ?_
      refine nk_bipush (v := 44) dX8_readsSet_132 (by decide) ?_
      refine nk_cVi kX8_81 (s_X8_isLetter (A := va_up A 0 (tz F f2)) (I := i3 I (nI (a + 1)) (nI (tp_f (A 5) l (a + 1) 0 (2 ^ bt - 1))) (if tp_one (A 5) l (a + 1) then nI (tp_num (A 5) l (a + 1)) else z)) hi hl h110 rfl (by omega)) dX8_readsSet_134 mh_0 rfl rfl (by decide) (Nat.le_of_ble_eq_true rfl) ?_
      refine nk_istore_nT (i := 3) dX8_readsSet_137 rfl (by decide) ?_
      refine nk_goto (tgt := 46) dX8_readsSet_138 (by decide) ?_
      refine nk_iload_n (i := 2) dX8_readsSet_46 rfl rfl ?_
      refine nk_ifeq (tgt := 141) dX8_readsSet_47 (by decide) (fun _ => ?_) (fun h47 => by first | exact absurd (rfl) h47 | exact absurd h47 (rfl))
      refine nk_aload_n (i := 0) dX8_readsSet_141 rfl rfl ?_
      refine nk_getf fX8_7 dX8_readsSet_142 mh_0 rfl ?_
      refine nk_sipush (v := 3618) dX8_readsSet_145 (by decide) ?_
      refine nk_dup2 dX8_readsSet_148 rfl rfl ?_
      refine nk_ialdN (j := 3618 + 0) dX8_readsSet_149 (mh_1 hi) (rfl) (by omega) (by decide) ?_
      refine nk_iconst (v := 1) dX8_readsSet_150 (by decide) ?_
      refine nk_iadd dX8_readsSet_151 ?_
      refine nk_iastN (j := 3618 + 0) dX8_readsSet_152 (mh_1 hi) (rfl) (by omega) (by decide) ?_
      refine nk_J.to ?_ rfl rfl (mu_A0 hi)
      rw [bx_uu, show (va_up A 0 (tz F f2)) 0 = tz F f2 from rfl, tz_upd (by omega)]
      refine nk_iload_n (i := 2) dX8_readsSet_153 rfl rfl ?_
      refine nk_ifeq (tgt := 170) dX8_readsSet_154 (by decide) (fun _ => ?_) (fun h154 => by first | exact absurd (rfl) h154 | exact absurd h154 (rfl))
      refine nk_iconst (v := 0) dX8_readsSet_170 (by decide) ?_
      refine nk_zreturn dX8_readsSet_171 rfl rfl ?_
      exact ⟨_, _, _, by rw [if_neg hf], rfl, fun _ => rfl, fun q => absurd q hf⟩
set_option maxRecDepth 20000 in
theorem s_readsSet {G : nk_EG} {ad : Nat → Nat} {A : Nat → Nat → Int32} {I : Nat → Int32} {F f : Nat → Int32} (hi : mInj ad) {l : Nat} (hl : I 1 = nI l) (h110 : l ≤ 110) {a n bt : Nat} (ha : a < l) (hn : f 0 = nI n) (hn4 : n ≤ 4) (hb : f 1 = nI bt) (hbt : bt ≤ 10) (y z : Int32) : nk_S G mX8_readsSet 4 0 0 [.ref (ad 0)] (mh ad (va_up A 0 (tz F f)) (i3 I (nI a) y z)) (ph_rd ad A I F (tp_set (A 5) l (2 ^ bt - 1) n a f).1 (tp_set (A 5) l (2 ^ bt - 1) n a f).2.1 (fun f' => f' = upd (tp_set (A 5) l (2 ^ bt - 1) n a f).2.2 0 (nI (n + 1)))) := by
  refine nk_S.of (by decide +kernel) (Nat.le_of_ble_eq_true rfl) rfl ?_
  have e0 : (va_up A 0 (tz F f)) 0 (3618 + 0) = nI n := (tz_v (by omega)).trans hn
  refine nk_aload_n (i := 0) dX8_readsSet_0 rfl rfl ?_
  refine nk_getf fX8_7 dX8_readsSet_1 mh_0 rfl ?_
  refine nk_sipush (v := 3618) dX8_readsSet_4 (by decide) ?_
  refine nk_ialdN (j := 3618 + 0) dX8_readsSet_7 (mh_1 hi) (rfl) (by omega) (by decide) ?_
  refine nk_top (y := nI n) (e0) ?_
  refine nk_istore_nT (i := 1) dX8_readsSet_8 rfl (by decide) ?_
  refine nk_iload_n (i := 1) dX8_readsSet_9 rfl rfl ?_
  refine nk_iconst (v := 4) dX8_readsSet_10 (by decide) ?_
  refine nk_icmpne (tgt := 20) dX8_readsSet_11 (by decide) (fun h11 => ?_) (fun h11 => ?_)
  · skip
    have hn5 : ¬ n = 4 := fun z => h11 (by rw [z]; rfl)
    have e1 : tp_set (A 5) l (2 ^ bt - 1) n a f = tp_ks (A 5) l (2 ^ bt - 1) n (l + 1) a (upd f (2 + n) (tp_kind (A 5 a))) := by unfold tp_set; rw [if_neg hn5]
    rw [e1]
    refine nk_aload_n (i := 0) dX8_readsSet_20 rfl rfl ?_
    refine nk_getf fX8_7 dX8_readsSet_21 mh_0 rfl ?_
    refine nk_sipush (v := 3620) dX8_readsSet_24 (by decide) ?_
    refine nk_iload_n (i := 1) dX8_readsSet_27 rfl rfl ?_
    refine nk_iadd dX8_readsSet_28 ?_
    refine nk_aload_n (i := 0) dX8_readsSet_29 rfl rfl ?_
    refine nk_getf fX8_26 dX8_readsSet_30 mh_0 rfl ?_
    refine nk_aload_n (i := 0) dX8_readsSet_33 rfl rfl ?_
    refine nk_getf fX8_71 dX8_readsSet_34 mh_0 rfl ?_
    refine nk_ialdN (j := a) dX8_readsSet_37 (mh_6 hi) (rfl) (by omega) (by decide) ?_
    refine nk_cSi kX8_100 (s_X8_kindOfLetter) dX8_readsSet_38 rfl rfl (by decide) (Nat.le_of_ble_eq_true rfl) ?_
    refine nk_iastN (j := 3618 + (2 + n)) dX8_readsSet_41 (mh_1 hi) (nk_ix20 n) (by omega) (by decide) ?_
    refine nk_J.to ?_ rfl rfl (mu_A0 hi)
    rw [bx_uu, show (va_up A 0 (tz F f)) 0 = tz F f from rfl, tz_upd (by omega)]
    refine nk_iconst (v := 1) dX8_readsSet_42 (by decide) ?_
    refine nk_istore_nT (i := 2) dX8_readsSet_43 rfl (by decide) ?_
    refine nk_iconst (v := 1) dX8_readsSet_44 (by decide) ?_
    refine nk_istore_nT (i := 3) dX8_readsSet_45 rfl (by decide) ?_
    refine nk_iload_n (i := 2) dX8_readsSet_46 rfl rfl ?_
    refine nk_ifeq (tgt := 141) dX8_readsSet_47 (by decide) (fun h47 => by first | exact absurd h47 (by decide) | exact absurd (by decide) h47) (fun _ => ?_)
    refine nk_iload_n (i := 3) dX8_readsSet_50 rfl rfl ?_
    refine nk_ifeq (tgt := 141) dX8_readsSet_51 (by decide) (fun h51 => by first | exact absurd h51 (by decide) | exact absurd (by decide) h51) (fun _ => ?_)
    exact l_readsSet hi hl h110 (by omega) hbt (l + 1) a (upd f (2 + n) (tp_kind (A 5 a))) y z ha (by omega) ((pk_un (by omega)).trans hn) ((pk_un (by omega)).trans hb) rfl
  · skip
    refine nk_aload_n (i := 0) dX8_readsSet_14 rfl rfl ?_
    refine nk_iconst (v := 3) dX8_readsSet_15 (by decide) ?_
    refine nk_cVi kX8_84 (s_X8_refuse hi) dX8_readsSet_16 mh_0 rfl rfl (by decide) (Nat.le_of_ble_eq_true rfl) ?_
    refine nk_zreturn dX8_readsSet_19 rfl rfl ?_
    have hn5 : n = 4 := nk_eqI (b := 4) h11 (by omega) (by omega)
    have e1 : tp_set (A 5) l (2 ^ bt - 1) n a f = (3, a, f) := by unfold tp_set; rw [if_pos hn5]
    rw [e1, i3_6]
    exact ⟨3, z, f, rfl, rfl, fun _ => rfl, fun q => by cases q⟩

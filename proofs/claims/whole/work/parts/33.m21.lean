/-! the reference: the tape is read whole -/
set_option maxRecDepth 20000 in
theorem l_reads0 {G : nk_EG} {ad : Nat → Nat} {A : Nat → Nat → Int32} {I : Nat → Int32} (hi : mInj ad) {Φ : Option Value → nk_AH → Prop} (kk : nk_J G mX8_reads 5 Φ 0 0 26 [some (.ref (ad 0)), some (.int (nI 134))] [] (mh ad (va_up A 0 (pf_zf (A 0) 3618 134)) I)) : ∀ (n : Nat) (k : Nat) (h1 : k ≤ 134) (h2 : 134 < k + n), nk_J G mX8_reads 5 (Φ) 0 0 2 [some (.ref (ad 0)), some (.int (nI k))] [] (mh ad (va_up A 0 (pf_zf (A 0) 3618 k)) I) := by
  intro n
  induction n with
  | zero => intro k h1 h2; omega
  | succ n ih =>
    intro k h1 h2
    refine nk_iload_n (i := 1) dX8_reads_2 rfl rfl ?_
    refine nk_sipush (v := 134) dX8_reads_3 (by decide) ?_
    refine nk_icmpge (tgt := 26) dX8_reads_6 (by decide) (fun h6 => ?_) (fun h6 => ?_)
    · skip
      have e2 : k = 134 := Nat.le_antisymm h1 (nk_leI (a := 134) h6 (by omega) (by omega))
      subst e2
      exact kk
    · skip
      have hk := nk_nleI (a := 134) h6 (by omega) (by omega)
      refine nk_aload_n (i := 0) dX8_reads_9 rfl rfl ?_
      refine nk_getf fX8_7 dX8_reads_10 mh_0 rfl ?_
      refine nk_sipush (v := 3618) dX8_reads_13 (by decide) ?_
      refine nk_iload_n (i := 1) dX8_reads_16 rfl rfl ?_
      refine nk_iadd dX8_reads_17 ?_
      refine nk_iconst (v := 0) dX8_reads_18 (by decide) ?_
      refine nk_iastN (j := 3618 + k) dX8_reads_19 (mh_1 hi) (nI_add 3618 k) (by omega) (by decide) ?_
      refine nk_J.to ?_ rfl rfl (mu_A0 hi)
      refine nk_iincT dX8_reads_20 rfl (nk_i1 k) (by decide) ?_
      refine nk_goto (tgt := 2) dX8_reads_23 (by decide) ?_
      exact (ih (k + 1) (by omega) (by omega)).to rfl rfl (by rw [bx_uu]; exact congrArg (fun z => mh ad (va_up A 0 z) I) (pf_zf_s (A 0) 3618 k))
set_option maxRecDepth 20000 in
theorem t_reads0 {G : nk_EG} {ad : Nat → Nat} {A : Nat → Nat → Int32} {I : Nat → Int32} {F f : Nat → Int32} {ok pl : Nat} {g : (Nat → Int32) → Prop} (h : ¬ ok = 0) {z : Int32} : nk_J G mX8_reads 5 (ph_rd ad A I F ok pl g) 0 0 110 [some (.ref (ad 0)), some (.int 0)] [] (mh ad (va_up A 0 (tz F f)) (i3 I (nI pl) (nI ok) z)) := by
  refine nk_iload_n (i := 1) dX8_reads_110 rfl rfl ?_
  refine nk_ifeq (tgt := 137) dX8_reads_111 (by decide) (fun _ => ?_) (fun h111 => by first | exact absurd (rfl) h111 | exact absurd h111 (rfl))
  refine nk_iconst (v := 0) dX8_reads_137 (by decide) ?_
  refine nk_zreturn dX8_reads_138 rfl rfl ?_
  exact ⟨_, _, _, by rw [if_neg h], rfl, fun _ => rfl, fun q => absurd q h⟩
set_option maxRecDepth 20000 in
theorem l_reads {G : nk_EG} {ad : Nat → Nat} {A : Nat → Nat → Int32} {I : Nat → Int32} {F : Nat → Int32} (hi : mInj ad) {l : Nat} (hl : I 1 = nI l) (h110 : l ≤ 110) {b : Nat} {R : Nat × Nat × (Nat → Int32)} (hb10 : b ≤ 10) : ∀ (n : Nat) (a k : Nat) (f : Nat → Int32) (y z : Int32) (h1 : a ≤ l) (h2 : l < a + n) (hk : k ≤ 4) (hn : f 0 = nI k) (hb : f 1 = nI b) (hT : tp_sets (A 5) l (2 ^ b - 1) n k a f = R), nk_J G mX8_reads 5 (ph_rd ad A I F R.1 R.2.1 (fun f' => f' = R.2.2)) 0 0 72 [some (.ref (ad 0)), some (.int 1)] [] (mh ad (va_up A 0 (tz F f)) (i3 I (nI a) y z)) := by
  intro n
  induction n with
  | zero => intro a k f y z h1 h2 hk hn hb hT; omega
  | succ n ih =>
    intro a k f y z h1 h2 hk hn hb hT
    refine nk_iload_n (i := 1) dX8_reads_72 rfl rfl ?_
    refine nk_ifeq (tgt := 110) dX8_reads_73 (by decide) (fun h73 => by first | exact absurd h73 (by decide) | exact absurd (by decide) h73) (fun _ => ?_)
    refine nk_aload_n (i := 0) dX8_reads_76 rfl rfl ?_
    refine nk_getf fX8_71 dX8_reads_77 mh_0 rfl ?_
    refine nk_aload_n (i := 0) dX8_reads_80 rfl rfl ?_
    refine nk_getf fX8_67 dX8_reads_81 mh_0 rfl ?_
    rw [show i3 I (nI a) y z 1 = I 1 from rfl, hl]
    refine nk_icmpge (tgt := 110) dX8_reads_84 (by decide) (fun h84 => ?_) (fun h84 => ?_)
    · skip
      first
      | (have e : a = l := Nat.le_antisymm h1 (nk_leI (b := a) h84 (by omega) (by omega))
         rw [tp_sets_end e] at hT
         subst hT
         refine nk_iload_n (i := 1) dX8_reads_110 rfl rfl ?_
         refine nk_ifeq (tgt := 137) dX8_reads_111 (by decide) (fun h111 => by first | exact absurd h111 (by decide) | exact absurd (by decide) h111) (fun _ => ?_)
         refine nk_aload_n (i := 0) dX8_reads_114 rfl rfl ?_
         refine nk_getf fX8_71 dX8_reads_115 mh_0 rfl ?_
         refine nk_aload_n (i := 0) dX8_reads_118 rfl rfl ?_
         refine nk_getf fX8_67 dX8_reads_119 mh_0 rfl ?_
         refine nk_icmpeq (tgt := 133) dX8_reads_122 (by decide) (fun _ => ?_) (fun h122 => by first | exact absurd (show nI a = I 1 by rw [hl, e]) h122 | exact absurd h122 (show nI a = I 1 by rw [hl, e]))
         refine nk_iconst (v := 1) dX8_reads_133 (by decide) ?_
         refine nk_goto (tgt := 138) dX8_reads_134 (by decide) ?_
         refine nk_zreturn dX8_reads_138 rfl rfl ?_
         exact ⟨y, z, f, rfl, rfl, fun q => absurd rfl q, fun _ => rfl⟩)
      | (have h99 : tp_kind (A 5 a) = 0 := h99
         rw [tp_sets_no ha h99] at hT
         subst hT
         refine nk_iload_n (i := 1) dX8_reads_110 rfl rfl ?_
         refine nk_ifeq (tgt := 137) dX8_reads_111 (by decide) (fun h111 => by first | exact absurd h111 (by decide) | exact absurd (by decide) h111) (fun _ => ?_)
         refine nk_aload_n (i := 0) dX8_reads_114 rfl rfl ?_
         refine nk_getf fX8_71 dX8_reads_115 mh_0 rfl ?_
         refine nk_aload_n (i := 0) dX8_reads_118 rfl rfl ?_
         refine nk_getf fX8_67 dX8_reads_119 mh_0 rfl ?_
         refine nk_icmpeq (tgt := 133) dX8_reads_122 (by decide) (fun h122 => by first | exact absurd h122 (show ¬ nI a = I 1 from fun q => absurd (nk_eqI (q.trans hl) (by omega) (by omega)) (by omega)) | exact absurd (show ¬ nI a = I 1 from fun q => absurd (nk_eqI (q.trans hl) (by omega) (by omega)) (by omega)) h122) (fun _ => ?_)
         refine nk_aload_n (i := 0) dX8_reads_125 rfl rfl ?_
         refine nk_iconst (v := 1) dX8_reads_126 (by decide) ?_
         refine nk_cVi kX8_84 (s_X8_refuse hi) dX8_reads_127 mh_0 rfl rfl (by decide) (Nat.le_of_ble_eq_true rfl) ?_
         rw [i3_6]
         refine nk_ifeq (tgt := 137) dX8_reads_130 (by decide) (fun _ => ?_) (fun h130 => by first | exact absurd (rfl) h130 | exact absurd h130 (rfl))
         refine nk_iconst (v := 0) dX8_reads_137 (by decide) ?_
         refine nk_zreturn dX8_reads_138 rfl rfl ?_
         exact ⟨1, z, f, rfl, rfl, fun _ => rfl, fun q => by cases q⟩)
    · skip
      have ha := nk_nleI (a := l) h84 (by omega) (by omega)
      refine nk_aload_n (i := 0) dX8_reads_87 rfl rfl ?_
      refine nk_getf fX8_26 dX8_reads_88 mh_0 rfl ?_
      refine nk_aload_n (i := 0) dX8_reads_91 rfl rfl ?_
      refine nk_getf fX8_71 dX8_reads_92 mh_0 rfl ?_
      refine nk_ialdN (j := a) dX8_reads_95 (mh_6 hi) (rfl) (by omega) (by decide) ?_
      refine nk_cSi kX8_100 (s_X8_kindOfLetter) dX8_reads_96 rfl rfl (by decide) (Nat.le_of_ble_eq_true rfl) ?_
      refine nk_ifle (tgt := 110) dX8_reads_99 (by decide) (fun h99 => ?_) (fun h99 => ?_)
      · skip
        rw [tp_kind_le] at h99
        first
        | (have e : a = l := Nat.le_antisymm h1 (nk_leI (b := a) h84 (by omega) (by omega))
           rw [tp_sets_end e] at hT
           subst hT
           refine nk_iload_n (i := 1) dX8_reads_110 rfl rfl ?_
           refine nk_ifeq (tgt := 137) dX8_reads_111 (by decide) (fun h111 => by first | exact absurd h111 (by decide) | exact absurd (by decide) h111) (fun _ => ?_)
           refine nk_aload_n (i := 0) dX8_reads_114 rfl rfl ?_
           refine nk_getf fX8_71 dX8_reads_115 mh_0 rfl ?_
           refine nk_aload_n (i := 0) dX8_reads_118 rfl rfl ?_
           refine nk_getf fX8_67 dX8_reads_119 mh_0 rfl ?_
           refine nk_icmpeq (tgt := 133) dX8_reads_122 (by decide) (fun _ => ?_) (fun h122 => by first | exact absurd (show nI a = I 1 by rw [hl, e]) h122 | exact absurd h122 (show nI a = I 1 by rw [hl, e]))
           refine nk_iconst (v := 1) dX8_reads_133 (by decide) ?_
           refine nk_goto (tgt := 138) dX8_reads_134 (by decide) ?_
           refine nk_zreturn dX8_reads_138 rfl rfl ?_
           exact ⟨y, z, f, rfl, rfl, fun q => absurd rfl q, fun _ => rfl⟩)
        | (have h99 : tp_kind (A 5 a) = 0 := h99
           rw [tp_sets_no ha h99] at hT
           subst hT
           refine nk_iload_n (i := 1) dX8_reads_110 rfl rfl ?_
           refine nk_ifeq (tgt := 137) dX8_reads_111 (by decide) (fun h111 => by first | exact absurd h111 (by decide) | exact absurd (by decide) h111) (fun _ => ?_)
           refine nk_aload_n (i := 0) dX8_reads_114 rfl rfl ?_
           refine nk_getf fX8_71 dX8_reads_115 mh_0 rfl ?_
           refine nk_aload_n (i := 0) dX8_reads_118 rfl rfl ?_
           refine nk_getf fX8_67 dX8_reads_119 mh_0 rfl ?_
           refine nk_icmpeq (tgt := 133) dX8_reads_122 (by decide) (fun h122 => by first | exact absurd h122 (show ¬ nI a = I 1 from fun q => absurd (nk_eqI (q.trans hl) (by omega) (by omega)) (by omega)) | exact absurd (show ¬ nI a = I 1 from fun q => absurd (nk_eqI (q.trans hl) (by omega) (by omega)) (by omega)) h122) (fun _ => ?_)
           refine nk_aload_n (i := 0) dX8_reads_125 rfl rfl ?_
           refine nk_iconst (v := 1) dX8_reads_126 (by decide) ?_
           refine nk_cVi kX8_84 (s_X8_refuse hi) dX8_reads_127 mh_0 rfl rfl (by decide) (Nat.le_of_ble_eq_true rfl) ?_
           rw [i3_6]
           refine nk_ifeq (tgt := 137) dX8_reads_130 (by decide) (fun _ => ?_) (fun h130 => by first | exact absurd (rfl) h130 | exact absurd h130 (rfl))
           refine nk_iconst (v := 0) dX8_reads_137 (by decide) ?_
           refine nk_zreturn dX8_reads_138 rfl rfl ?_
           exact ⟨1, z, f, rfl, rfl, fun _ => rfl, fun q => by cases q⟩)
      · skip
        rw [tp_kind_le] at h99
        refine nk_aload_n (i := 0) dX8_reads_102 rfl rfl ?_
        refine nk_cV kX8_107 (s_readsSet hi hl h110 ha hn hk hb hb10 y z) dX8_reads_103 mh_0 rfl rfl (by decide) (Nat.le_of_ble_eq_true rfl) (bc' := 0) (bs' := 0) ⟨Nat.le_refl _, Nat.le_refl _⟩ (fun r H' q => ?_)
        obtain ⟨y2, z2, f2, rfl, rfl, hy2, hg2⟩ := q
        have hc : a < l ∧ ¬ tp_kind (A 5 a) = 0 := ⟨ha, h99⟩
        by_cases hok : (tp_set (A 5) l (2 ^ b - 1) k a f).1 = 0
        · refine nk_top (y := 1) (if_pos hok) ?_
          rw [tp_sets_set hc hok] at hT
          have h5 := tp_set_ok hok
          have e2 := hg2 hok
          subst e2
          refine nk_istore_nT (i := 1) dX8_reads_106 rfl (by decide) ?_
          refine nk_goto (tgt := 72) dX8_reads_107 (by decide) ?_
          exact ih _ (k + 1) _ y2 z2 h5.2.2 (by omega) (by omega) (pk_us) ((pk_un (by omega)).trans ((tp_set_lo (by omega)).trans hb)) hT
        · refine nk_top (y := 0) (if_neg hok) ?_
          rw [tp_sets_bad hc hok] at hT
          subst hT
          rw [hy2 hok]
          refine nk_istore_nT (i := 1) dX8_reads_106 rfl (by decide) ?_
          refine nk_goto (tgt := 72) dX8_reads_107 (by decide) ?_
          refine nk_iload_n (i := 1) dX8_reads_72 rfl rfl ?_
          refine nk_ifeq (tgt := 110) dX8_reads_73 (by decide) (fun _ => ?_) (fun h73 => by first | exact absurd (rfl) h73 | exact absurd h73 (rfl))
          exact t_reads0 hok
set_option maxRecDepth 20000 in
theorem s_reads {G : nk_EG} {ad : Nat → Nat} {A : Nat → Nat → Int32} {I : Nat → Int32} (hi : mInj ad) {l : Nat} (hl : I 1 = nI l) (h110 : l ≤ 110) : nk_S G mX8_reads 5 0 0 [.ref (ad 0)] (mh ad A I) (ph_rd ad A I (A 0) (tp_all (A 5) l).1 (tp_all (A 5) l).2.1 (fun f' => f' = (tp_all (A 5) l).2.2)) := by
  refine nk_S.of (by decide +kernel) (Nat.le_of_ble_eq_true rfl) rfl ?_
  refine nk_iconst (v := 0) dX8_reads_0 (by decide) ?_
  refine nk_istore_nT (i := 1) dX8_reads_1 rfl (by decide) ?_
  refine (l_reads0 hi ?_ 135 0 (by omega) (by omega)).to rfl rfl (by rw [pf_zf_0, va_up_same])
  rw [tz_zero]
  refine nk_aload_n (i := 0) dX8_reads_26 rfl rfl ?_
  refine nk_iconst (v := 0) dX8_reads_27 (by decide) ?_
  refine nk_putf pX8_71 dX8_reads_28 mh_0 rfl rfl (Nat.le_of_ble_eq_true rfl) rfl ?_
  refine nk_J.to ?_ rfl rfl mu_I5
  rw [i3_s5]
  refine nk_aload_n (i := 0) dX8_reads_31 rfl rfl ?_
  refine nk_cV kX8_103 (s_readsLaw (F := A 0) (f := fun _ => 0) hi hl h110 (I 6) (I 7)) dX8_reads_32 mh_0 rfl rfl (by decide) (Nat.le_of_ble_eq_true rfl) (bc' := 0) (bs' := 0) ⟨Nat.le_refl _, Nat.le_refl _⟩ (fun r H' q => ?_)
  obtain ⟨y, z, f, rfl, rfl, hy, hg⟩ := q
  by_cases hok : (tp_lw (A 5) l).1 = 0
  · refine nk_top (y := 1) (if_pos hok) ?_
    obtain ⟨hT, hpl, hn2, hn10⟩ := tp_all_ok hok
    have e2 := hg hok
    subst e2
    rw [hT]
    refine nk_istore_nT (i := 1) dX8_reads_35 rfl (by decide) ?_
    refine nk_iload_n (i := 1) dX8_reads_36 rfl rfl ?_
    refine nk_ifeq (tgt := 72) dX8_reads_37 (by decide) (fun h37 => by first | exact absurd h37 (by decide) | exact absurd (by decide) h37) (fun _ => ?_)
    refine nk_aload_n (i := 0) dX8_reads_40 rfl rfl ?_
    refine nk_getf fX8_71 dX8_reads_41 mh_0 rfl ?_
    refine nk_aload_n (i := 0) dX8_reads_44 rfl rfl ?_
    refine nk_getf fX8_67 dX8_reads_45 mh_0 rfl ?_
    rw [show i3 I (nI (tp_lw (A 5) l).2) y z 1 = I 1 from rfl, hl]
    refine nk_icmpeq (tgt := 66) dX8_reads_48 (by decide) (fun h48 => ?_) (fun h48 => ?_)
    · skip
      refine nk_aload_n (i := 0) dX8_reads_66 rfl rfl ?_
      refine nk_iconst (v := 1) dX8_reads_67 (by decide) ?_
      refine nk_cVi kX8_84 (s_X8_refuse hi) dX8_reads_68 mh_0 rfl rfl (by decide) (Nat.le_of_ble_eq_true rfl) ?_
      rw [i3_6]
      refine nk_zreturn dX8_reads_71 rfl rfl ?_
      have c : (tp_lw (A 5) l).2 = l ∨ tp_kind (A 5 (tp_lw (A 5) l).2) = 0 := by
        first
        | exact Or.inl (nk_eqI h48 (by omega) (by omega))
        | exact Or.inr h63
        | exact Or.inr (Classical.not_not.mp h63)
      rw [if_pos c]
      exact ⟨1, z, _, rfl, rfl, fun _ => rfl, fun q => by cases q⟩
    · skip
      have ha : (tp_lw (A 5) l).2 < l := Nat.lt_of_le_of_ne hpl (fun q => h48 (show nI (tp_lw (A 5) l).2 = nI l by rw [q]))
      refine nk_aload_n (i := 0) dX8_reads_51 rfl rfl ?_
      refine nk_getf fX8_26 dX8_reads_52 mh_0 rfl ?_
      refine nk_aload_n (i := 0) dX8_reads_55 rfl rfl ?_
      refine nk_getf fX8_71 dX8_reads_56 mh_0 rfl ?_
      refine nk_ialdN (j := (tp_lw (A 5) l).2) dX8_reads_59 (mh_6 hi) (rfl) (by omega) (by decide) ?_
      refine nk_cSi kX8_100 (s_X8_kindOfLetter) dX8_reads_60 rfl rfl (by decide) (Nat.le_of_ble_eq_true rfl) ?_
      refine nk_ifne (tgt := 72) dX8_reads_63 (by decide) (fun h63 => ?_) (fun h63 => ?_)
      · skip
        have c : ¬ ((tp_lw (A 5) l).2 = l ∨ tp_kind (A 5 (tp_lw (A 5) l).2) = 0) := fun q => q.elim (fun q => by omega) (fun q => h63 q)
        rw [if_neg c]
        exact l_reads hi hl h110 hn10 (l + 1) (tp_lw (A 5) l).2 0 _ y z hpl (by omega) (by omega) rfl rfl rfl
      · skip
        refine nk_aload_n (i := 0) dX8_reads_66 rfl rfl ?_
        refine nk_iconst (v := 1) dX8_reads_67 (by decide) ?_
        refine nk_cVi kX8_84 (s_X8_refuse hi) dX8_reads_68 mh_0 rfl rfl (by decide) (Nat.le_of_ble_eq_true rfl) ?_
        rw [i3_6]
        refine nk_zreturn dX8_reads_71 rfl rfl ?_
        have c : (tp_lw (A 5) l).2 = l ∨ tp_kind (A 5 (tp_lw (A 5) l).2) = 0 := by
          first
          | exact Or.inl (nk_eqI h48 (by omega) (by omega))
          | exact Or.inr h63
          | exact Or.inr (Classical.not_not.mp h63)
        rw [if_pos c]
        exact ⟨1, z, _, rfl, rfl, fun _ => rfl, fun q => by cases q⟩
  · refine nk_top (y := 0) (if_neg hok) ?_
    rw [tp_all_bad hok, hy hok]
    refine nk_istore_nT (i := 1) dX8_reads_35 rfl (by decide) ?_
    refine nk_iload_n (i := 1) dX8_reads_36 rfl rfl ?_
    refine nk_ifeq (tgt := 72) dX8_reads_37 (by decide) (fun _ => ?_) (fun h37 => by first | exact absurd (rfl) h37 | exact absurd h37 (rfl))
    refine nk_iload_n (i := 1) dX8_reads_72 rfl rfl ?_
    refine nk_ifeq (tgt := 110) dX8_reads_73 (by decide) (fun _ => ?_) (fun h73 => by first | exact absurd (rfl) h73 | exact absurd h73 (rfl))
    exact t_reads0 hok
set_option maxRecDepth 20000 in
theorem s_shelf {G : nk_EG} {ad : Nat → Nat} {A : Nat → Nat → Int32} {I : Nat → Int32} (hi : mInj ad) {l : Nat} (hl : I 1 = nI l) (h110 : l ≤ 110) : nk_S G mX8_shelf 6 0 0 [.ref (ad 0)] (mh ad A I) (ph_sh ad A I (tp_all (A 5) l)) := by
  refine nk_S.of (by decide +kernel) (Nat.le_of_ble_eq_true rfl) rfl ?_
  refine nk_aload_n (i := 0) dX8_shelf_0 rfl rfl ?_
  refine nk_cV kX8_110 (s_reads hi hl h110) dX8_shelf_1 mh_0 rfl rfl (by decide) (Nat.le_of_ble_eq_true rfl) (bc' := 0) (bs' := 0) ⟨Nat.le_refl _, Nat.le_refl _⟩ (fun r H' q => ?_)
  obtain ⟨y, z, f, rfl, rfl, hy, hg⟩ := q
  by_cases hok : (tp_all (A 5) l).1 = 0
  · refine nk_top (y := 1) (if_pos hok) ?_
    refine nk_istore_nT (i := 1) dX8_shelf_4 rfl (by decide) ?_
    refine nk_aload_n (i := 0) dX8_shelf_5 rfl rfl ?_
    refine nk_iconst (v := 0) dX8_shelf_6 (by decide) ?_
    refine nk_putf pX8_67 dX8_shelf_7 mh_0 rfl rfl (Nat.le_of_ble_eq_true rfl) rfl ?_
    refine nk_J.to ?_ rfl rfl mu_I1
    rw [i3_lo (by omega)]
    refine nk_iload_n (i := 1) dX8_shelf_10 rfl rfl ?_
    refine nk_ifne (tgt := 30) dX8_shelf_11 (by decide) (fun _ => ?_) (fun h11 => by first | exact absurd (by decide) h11 | exact absurd h11 (by decide))
    refine nk_aload_n (i := 0) dX8_shelf_30 rfl rfl ?_
    refine nk_sipush (v := 3618) dX8_shelf_31 (by decide) ?_
    refine nk_iconst (v := 0) dX8_shelf_34 (by decide) ?_
    refine nk_cVv kX8_117 (s_X8_copyShelf hi (a := 3618) (b := 0) (by omega) (by omega) (by omega)) dX8_shelf_35 mh_0 rfl rfl (by decide) (Nat.le_of_ble_eq_true rfl) ?_
    refine nk_aload_n (i := 0) dX8_shelf_38 rfl rfl ?_
    refine nk_iconst (v := 0) dX8_shelf_39 (by decide) ?_
    refine nk_putf pX8_121 dX8_shelf_40 mh_0 rfl rfl (Nat.le_of_ble_eq_true rfl) rfl ?_
    refine nk_J.to ?_ rfl rfl mu_I0
    rw [i3_lo (by omega)]
    refine nk_aload_n (i := 0) dX8_shelf_43 rfl rfl ?_
    refine nk_getf fX8_7 dX8_shelf_44 mh_0 rfl ?_
    refine nk_iconst (v := 0) dX8_shelf_47 (by decide) ?_
    refine nk_ialdN (j := 0) dX8_shelf_48 (mh_1 hi) (rfl) (by omega) (by decide) ?_
    refine nk_ireturn dX8_shelf_49 rfl ?_
    refine ⟨nI (tp_all (A 5) l).2.1, y, z, f, ?_, ?_, fun _ => hg hok⟩
    · rw [if_pos hok, ← hg hok]
      exact congrArg (fun q => some (Value.int q)) (show va_cpy (tz (A 0) f) (tz (A 0) f) 3618 0 134 0 = f 0 from tz_at (F := A 0) (k := 0) (by omega))
    · rw [bx_uu]
      unfold sh_A sh_I
      rw [if_pos hok, if_pos hok]
      rfl
  · refine nk_top (y := 0) (if_neg hok) ?_
    refine nk_istore_nT (i := 1) dX8_shelf_4 rfl (by decide) ?_
    refine nk_aload_n (i := 0) dX8_shelf_5 rfl rfl ?_
    refine nk_iconst (v := 0) dX8_shelf_6 (by decide) ?_
    refine nk_putf pX8_67 dX8_shelf_7 mh_0 rfl rfl (Nat.le_of_ble_eq_true rfl) rfl ?_
    refine nk_J.to ?_ rfl rfl mu_I1
    rw [i3_lo (by omega)]
    refine nk_iload_n (i := 1) dX8_shelf_10 rfl rfl ?_
    refine nk_ifne (tgt := 30) dX8_shelf_11 (by decide) (fun h11 => by first | exact absurd h11 (by decide) | exact absurd (by decide) h11) (fun _ => ?_)
    refine nk_aload_n (i := 0) dX8_shelf_14 rfl rfl ?_
    refine nk_aload_n (i := 0) dX8_shelf_15 rfl rfl ?_
    refine nk_getf fX8_78 dX8_shelf_16 mh_0 rfl ?_
    refine nk_putf pX8_113 dX8_shelf_19 mh_0 rfl rfl (Nat.le_of_ble_eq_true rfl) rfl ?_
    refine nk_J.to ?_ rfl rfl mu_I2
    rw [i3_lo (by omega)]
    refine nk_ldc qX8_116 dX8_shelf_22 ?_
    refine nk_aload_n (i := 0) dX8_shelf_24 rfl rfl ?_
    refine nk_getf fX8_71 dX8_shelf_25 mh_0 rfl ?_
    refine nk_isub dX8_shelf_28 ?_
    refine nk_ireturn dX8_shelf_29 rfl ?_
    refine ⟨nI (tp_all (A 5) l).2.1, y, z, f, ?_, ?_, fun q => absurd q hok⟩
    · rw [if_neg hok]
      rfl
    · unfold sh_A sh_I
      rw [if_neg hok, if_neg hok, ← hy hok]
      rfl

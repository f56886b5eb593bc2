/-! the class: the tape, token by token -/
set_option maxRecDepth 20000 in
theorem s_X6_isFigure {G : nk_EG} {x : Int32} {H : nk_AH} : nk_Si G mX6_isFigure 1 [.int x] H (if 48 ≤ x.toInt ∧ x.toInt ≤ 57 then 1 else 0) H := by
  refine nk_S.of (by decide +kernel) (Nat.le_of_ble_eq_true rfl) rfl ?_
  refine nk_iload_n (i := 0) dX6_isFigure_0 rfl rfl ?_
  refine nk_bipush (v := 48) dX6_isFigure_1 (by decide) ?_
  refine nk_icmplt (tgt := 16) dX6_isFigure_3 (by decide) (fun h3 => ?_) (fun h3 => ?_)
  · skip
    refine nk_iconst (v := 0) dX6_isFigure_16 (by decide) ?_
    refine nk_zreturn dX6_isFigure_17 rfl rfl ?_
    refine ⟨?_, rfl⟩
    split <;> first | rfl | (exfalso; simp only [fa_lt, show (48 : Int32).toInt = 48 from rfl, show (57 : Int32).toInt = 57 from rfl] at *; omega)
  · skip
    refine nk_iload_n (i := 0) dX6_isFigure_6 rfl rfl ?_
    refine nk_bipush (v := 57) dX6_isFigure_7 (by decide) ?_
    refine nk_icmpgt (tgt := 16) dX6_isFigure_9 (by decide) (fun h9 => ?_) (fun h9 => ?_)
    · skip
      refine nk_iconst (v := 0) dX6_isFigure_16 (by decide) ?_
      refine nk_zreturn dX6_isFigure_17 rfl rfl ?_
      refine ⟨?_, rfl⟩
      split <;> first | rfl | (exfalso; simp only [fa_lt, show (48 : Int32).toInt = 48 from rfl, show (57 : Int32).toInt = 57 from rfl] at *; omega)
    · skip
      refine nk_iconst (v := 1) dX6_isFigure_12 (by decide) ?_
      refine nk_goto (tgt := 17) dX6_isFigure_13 (by decide) ?_
      refine nk_zreturn dX6_isFigure_17 rfl rfl ?_
      refine ⟨?_, rfl⟩
      split <;> first | rfl | (exfalso; simp only [fa_lt, show (48 : Int32).toInt = 48 from rfl, show (57 : Int32).toInt = 57 from rfl] at *; omega)
set_option maxRecDepth 20000 in
theorem s_X6_sortOf {G : nk_EG} {x : Int32} {H : nk_AH} : nk_Si G mX6_sortOf 1 [.int x] H (tp_kind x) H := by
  refine nk_S.of (by decide +kernel) (Nat.le_of_ble_eq_true rfl) rfl ?_
  refine nk_iload_n (i := 0) dX6_sortOf_0 rfl rfl ?_
  by_cases c97 : x = 97
  · refine nk_lookup (off := 51) (tgt := 52) dX6_sortOf_1 (by decide) (by subst c97; rfl) (by decide) ?_
    refine nk_iconst (v := 1) dX6_sortOf_52 (by decide) ?_
    refine nk_ireturn dX6_sortOf_53 rfl ?_
    exact ⟨by rw [c97]; rfl, rfl⟩
  by_cases c98 : x = 98
  · refine nk_lookup (off := 57) (tgt := 58) dX6_sortOf_1 (by decide) (by subst c98; rfl) (by decide) ?_
    refine nk_iconst (v := 4) dX6_sortOf_58 (by decide) ?_
    refine nk_ireturn dX6_sortOf_59 rfl ?_
    exact ⟨by rw [c98]; rfl, rfl⟩
  by_cases c99 : x = 99
  · refine nk_lookup (off := 55) (tgt := 56) dX6_sortOf_1 (by decide) (by subst c99; rfl) (by decide) ?_
    refine nk_iconst (v := 3) dX6_sortOf_56 (by decide) ?_
    refine nk_ireturn dX6_sortOf_57 rfl ?_
    exact ⟨by rw [c99]; rfl, rfl⟩
  by_cases c100 : x = 100
  · refine nk_lookup (off := 59) (tgt := 60) dX6_sortOf_1 (by decide) (by subst c100; rfl) (by decide) ?_
    refine nk_iconst (v := 5) dX6_sortOf_60 (by decide) ?_
    refine nk_ireturn dX6_sortOf_61 rfl ?_
    exact ⟨by rw [c100]; rfl, rfl⟩
  by_cases c114 : x = 114
  · refine nk_lookup (off := 53) (tgt := 54) dX6_sortOf_1 (by decide) (by subst c114; rfl) (by decide) ?_
    refine nk_iconst (v := 2) dX6_sortOf_54 (by decide) ?_
    refine nk_ireturn dX6_sortOf_55 rfl ?_
    exact ⟨by rw [c114]; rfl, rfl⟩
  refine nk_lookup (off := 61) (tgt := 62) dX6_sortOf_1 (by decide) (nk_lo5 c97 c98 c99 c100 c114) (by decide) ?_
  refine nk_iconst (v := 0) dX6_sortOf_62 (by decide) ?_
  refine nk_ireturn dX6_sortOf_63 rfl ?_
  exact ⟨by unfold tp_kind; rw [if_neg c97, if_neg c114, if_neg c99, if_neg c98, if_neg c100], rfl⟩
set_option maxRecDepth 20000 in
theorem l_X6_takeFigures {G : nk_EG} {H : nk_AH} {T f : Nat → Int32} {q y l a : Nat}  (hy : H y = some (inc 110 f)) (hft : ∀ j, j < 110 → f j = T j) (hl : l ≤ 110) (hqy : q ≠ y) (hfa : tp_fig T l a = true) {t0 : Int32} : ∀ (n e : Nat) (w0 : Int32) (h1 : a ≤ e) (h2 : e ≤ l) (h3 : l < e + n) (hfg : ∀ j, a ≤ j → j < e → tp_fig T l j = true) (hw : lx_w T a e w0), nk_J G mX6_takeFigures 2 (fun r H' => r = none ∧ ∃ bh t w, H' = nk_u H q (tpc y l (nI a) bh t w 0) ∧ lxr T l a t w bh) 0 0 5 [some (.ref q)] [] (nk_u H q (tpc y l (nI a) (nI e) t0 w0 0)) := by
  intro n
  induction n with
  | zero => intro e w0 h1 h2 h3 hfg hw; omega
  | succ n ih =>
    intro e w0 h1 h2 h3 hfg hw
    have hy2 : nk_u H q (tpc y l (nI a) (nI e) t0 w0 0) y = some (inc 110 f) := by rw [nk_u_ne hqy.symm]; exact hy
    have hfa2 := tp_fig_iff.mp hfa
    refine nk_aload_n (i := 0) dX6_takeFigures_5 rfl rfl ?_
    refine nk_getf fX6_22 dX6_takeFigures_6 (nk_u_self _ _ _) rfl ?_
    refine nk_aload_n (i := 0) dX6_takeFigures_9 rfl rfl ?_
    refine nk_getf fX6_15 dX6_takeFigures_10 (nk_u_self _ _ _) rfl ?_
    refine nk_icmpge (tgt := 72) dX6_takeFigures_13 (by decide) (fun h13 => ?_) (fun h13 => ?_)
    · skip
      have hn : ¬ tp_fig T l e = true := fun z => by
        have y := tp_fig_iff.mp z
        first
        | exact absurd y.1 (Nat.not_lt.mpr (nk_leI h13 (by omega) (by omega)))
        | exact h28 y.2
      have hae : a < e := by
        by_cases z : a = e
        · rw [z] at hfa; exact absurd hfa hn
        · omega
      have hx := lx_figs hae hfg hn hw
      refine nk_aload_n (i := 0) dX6_takeFigures_72 rfl rfl ?_
      refine nk_aload_n (i := 0) dX6_takeFigures_73 rfl rfl ?_
      refine nk_getf fX6_22 dX6_takeFigures_74 (nk_u_self _ _ _) rfl ?_
      refine nk_aload_n (i := 0) dX6_takeFigures_77 rfl rfl ?_
      refine nk_getf fX6_19 dX6_takeFigures_78 (nk_u_self _ _ _) rfl ?_
      refine nk_isub dX6_takeFigures_81 ?_
      refine nk_top (y := nI (e - a)) (pk_sub h1) ?_
      refine nk_iconst (v := 2) dX6_takeFigures_82 (by decide) ?_
      refine nk_icmpgt (tgt := 92) dX6_takeFigures_83 (by decide) (fun h83 => ?_) (fun h83 => ?_)
      · skip
        have hc := nk_ltI (a := 2) h83 (by omega) (by omega)
        rw [if_neg (by omega)] at hx
        refine nk_sipush (v := 258) dX6_takeFigures_92 (by decide) ?_
        refine nk_putf pX6_25 dX6_takeFigures_95 (nk_u_self _ _ _) rfl rfl (Nat.le_of_ble_eq_true rfl) rfl ?_
        refine nk_J.to ?_ rfl rfl (nk_u_u _ _ _ _)
        refine nk_vreturn dX6_takeFigures_98 rfl ?_
        exact ⟨rfl, _, _, _, rfl, hx⟩
      · skip
        have hc := nk_nltI (a := 2) h83 (by omega) (by omega)
        rw [if_pos hc] at hx
        refine nk_sipush (v := 256) dX6_takeFigures_86 (by decide) ?_
        refine nk_goto (tgt := 95) dX6_takeFigures_89 (by decide) ?_
        refine nk_putf pX6_25 dX6_takeFigures_95 (nk_u_self _ _ _) rfl rfl (Nat.le_of_ble_eq_true rfl) rfl ?_
        refine nk_J.to ?_ rfl rfl (nk_u_u _ _ _ _)
        refine nk_vreturn dX6_takeFigures_98 rfl ?_
        exact ⟨rfl, _, _, _, rfl, hx⟩
    · skip
      have hel := nk_nleI (a := l) h13 (by omega) (by omega)
      have eT := hft e (by omega)
      refine nk_aload_n (i := 0) dX6_takeFigures_16 rfl rfl ?_
      refine nk_getf fX6_9 dX6_takeFigures_17 (nk_u_self _ _ _) rfl ?_
      refine nk_aload_n (i := 0) dX6_takeFigures_20 rfl rfl ?_
      refine nk_getf fX6_22 dX6_takeFigures_21 (nk_u_self _ _ _) rfl ?_
      refine nk_ialdN (j := e) dX6_takeFigures_24 hy2 (rfl) (by omega) (by decide) ?_
      refine nk_cSi kX6_81 (s_X6_isFigure) dX6_takeFigures_25 rfl rfl (by decide) (Nat.le_of_ble_eq_true rfl) ?_
      refine nk_ifeq (tgt := 72) dX6_takeFigures_28 (by decide) (fun h28 => ?_) (fun h28 => ?_)
      · skip
        simp only [nk_b0, Classical.not_not, eT] at h28
        have hn : ¬ tp_fig T l e = true := fun z => by
          have y := tp_fig_iff.mp z
          first
          | exact absurd y.1 (Nat.not_lt.mpr (nk_leI h13 (by omega) (by omega)))
          | exact h28 y.2
        have hae : a < e := by
          by_cases z : a = e
          · rw [z] at hfa; exact absurd hfa hn
          · omega
        have hx := lx_figs hae hfg hn hw
        refine nk_aload_n (i := 0) dX6_takeFigures_72 rfl rfl ?_
        refine nk_aload_n (i := 0) dX6_takeFigures_73 rfl rfl ?_
        refine nk_getf fX6_22 dX6_takeFigures_74 (nk_u_self _ _ _) rfl ?_
        refine nk_aload_n (i := 0) dX6_takeFigures_77 rfl rfl ?_
        refine nk_getf fX6_19 dX6_takeFigures_78 (nk_u_self _ _ _) rfl ?_
        refine nk_isub dX6_takeFigures_81 ?_
        refine nk_top (y := nI (e - a)) (pk_sub h1) ?_
        refine nk_iconst (v := 2) dX6_takeFigures_82 (by decide) ?_
        refine nk_icmpgt (tgt := 92) dX6_takeFigures_83 (by decide) (fun h83 => ?_) (fun h83 => ?_)
        · skip
          have hc := nk_ltI (a := 2) h83 (by omega) (by omega)
          rw [if_neg (by omega)] at hx
          refine nk_sipush (v := 258) dX6_takeFigures_92 (by decide) ?_
          refine nk_putf pX6_25 dX6_takeFigures_95 (nk_u_self _ _ _) rfl rfl (Nat.le_of_ble_eq_true rfl) rfl ?_
          refine nk_J.to ?_ rfl rfl (nk_u_u _ _ _ _)
          refine nk_vreturn dX6_takeFigures_98 rfl ?_
          exact ⟨rfl, _, _, _, rfl, hx⟩
        · skip
          have hc := nk_nltI (a := 2) h83 (by omega) (by omega)
          rw [if_pos hc] at hx
          refine nk_sipush (v := 256) dX6_takeFigures_86 (by decide) ?_
          refine nk_goto (tgt := 95) dX6_takeFigures_89 (by decide) ?_
          refine nk_putf pX6_25 dX6_takeFigures_95 (nk_u_self _ _ _) rfl rfl (Nat.le_of_ble_eq_true rfl) rfl ?_
          refine nk_J.to ?_ rfl rfl (nk_u_u _ _ _ _)
          refine nk_vreturn dX6_takeFigures_98 rfl ?_
          exact ⟨rfl, _, _, _, rfl, hx⟩
      · skip
        simp only [nk_b0, Classical.not_not, eT] at h28
        refine nk_aload_n (i := 0) dX6_takeFigures_31 rfl rfl ?_
        refine nk_aload_n (i := 0) dX6_takeFigures_32 rfl rfl ?_
        refine nk_getf fX6_28 dX6_takeFigures_33 (nk_u_self _ _ _) rfl ?_
        refine nk_bipush (v := 10) dX6_takeFigures_36 (by decide) ?_
        refine nk_imul dX6_takeFigures_38 ?_
        refine nk_sipush (v := 1000) dX6_takeFigures_39 (by decide) ?_
        refine nk_irem dX6_takeFigures_42 (by decide) ?_
        refine nk_aload_n (i := 0) dX6_takeFigures_43 rfl rfl ?_
        refine nk_getf fX6_9 dX6_takeFigures_44 (nk_u_self _ _ _) rfl ?_
        refine nk_aload_n (i := 0) dX6_takeFigures_47 rfl rfl ?_
        refine nk_getf fX6_22 dX6_takeFigures_48 (nk_u_self _ _ _) rfl ?_
        refine nk_ialdN (j := e) dX6_takeFigures_51 hy2 (rfl) (by omega) (by decide) ?_
        refine nk_iadd dX6_takeFigures_52 ?_
        refine nk_bipush (v := 48) dX6_takeFigures_53 (by decide) ?_
        refine nk_isub dX6_takeFigures_55 ?_
        refine nk_top (y := (w0 * 10 - w0 * 10 / 1000 * 1000 + T e - 48)) (by rw [eT]) ?_
        refine nk_putf pX6_28 dX6_takeFigures_56 (nk_u_self _ _ _) rfl rfl (Nat.le_of_ble_eq_true rfl) rfl ?_
        refine nk_J.to ?_ rfl rfl (nk_u_u _ _ _ _)
        refine nk_aload_n (i := 0) dX6_takeFigures_59 rfl rfl ?_
        refine nk_dup dX6_takeFigures_60 rfl ?_
        refine nk_getf fX6_22 dX6_takeFigures_61 (nk_u_self _ _ _) rfl ?_
        refine nk_iconst (v := 1) dX6_takeFigures_64 (by decide) ?_
        refine nk_iadd dX6_takeFigures_65 ?_
        refine nk_top (y := nI (e + 1)) (nI_1 e) ?_
        refine nk_putf pX6_22 dX6_takeFigures_66 (nk_u_self _ _ _) rfl rfl (Nat.le_of_ble_eq_true rfl) rfl ?_
        refine nk_J.to ?_ rfl rfl (nk_u_u _ _ _ _)
        refine nk_goto (tgt := 5) dX6_takeFigures_69 (by decide) ?_
        have hfe : tp_fig T l e = true := tp_fig_iff.mpr ⟨hel, h28⟩
        exact ih (e + 1) _ (by omega) (by omega) (by omega) (fun j j1 j2 => if z : j = e then by rw [z]; exact hfe else hfg j j1 (by omega)) (lx_w_s hw h1 (fun j j1 j2 => if z : j = e then by rw [z]; exact hfe else hfg j j1 (by omega)))
set_option maxRecDepth 20000 in
theorem s_X6_takeFigures {G : nk_EG} {H : nk_AH} {T f : Nat → Int32} {q y l a : Nat} {t0 w0 : Int32} (hq : H q = some (tpc y l (nI a) (nI a) t0 w0 0))  (hy : H y = some (inc 110 f)) (hft : ∀ j, j < 110 → f j = T j) (hl : l ≤ 110) (hfa : tp_fig T l a = true) : nk_S G mX6_takeFigures 2 0 0 [.ref q] H (fun r H' => r = none ∧ ∃ bh t w, H' = nk_u H q (tpc y l (nI a) bh t w 0) ∧ lxr T l a t w bh) := by
  refine nk_S.of (by decide +kernel) (Nat.le_of_ble_eq_true rfl) rfl ?_
  have hqy : q ≠ y := nk_cdif hq hy (by intro z; cases z)
  have hfa2 := tp_fig_iff.mp hfa
  refine nk_aload_n (i := 0) dX6_takeFigures_0 rfl rfl ?_
  refine nk_iconst (v := 0) dX6_takeFigures_1 (by decide) ?_
  refine nk_putf pX6_28 dX6_takeFigures_2 hq rfl rfl (Nat.le_of_ble_eq_true rfl) rfl ?_
  exact l_X6_takeFigures hy hft hl hqy hfa (l + 1) a 0 (Nat.le_refl _) (by omega) (by omega) (fun j j1 j2 => by omega) ⟨fun _ => rfl, fun z => by omega, fun z => by omega⟩
set_option maxRecDepth 20000 in
theorem s_X6_adv {G : nk_EG} {H : nk_AH} {T f : Nat → Int32} {q y l a : Nat} {at0 t0 w0 : Int32} (hq : H q = some (tpc y l at0 (nI a) t0 w0 0))  (hy : H y = some (inc 110 f)) (hft : ∀ j, j < 110 → f j = T j) (hl : l ≤ 110) (hal : a ≤ l) : nk_S G mX6_advance 3 0 0 [.ref q] H (fun r H' => r = none ∧ ∃ bh t w, H' = nk_u H q (tpc y l (nI a) bh t w 0) ∧ lxr T l a t w bh) := by
  refine nk_S.of (by decide +kernel) (Nat.le_of_ble_eq_true rfl) rfl ?_
  have hqy : q ≠ y := nk_cdif hq hy (by intro z; cases z)
  have hy2 : ∀ {e}, nk_u H q e y = some (inc 110 f) := fun {e} => by rw [nk_u_ne hqy.symm]; exact hy
  refine nk_aload_n (i := 0) dX6_advance_0 rfl rfl ?_
  refine nk_getf fX6_31 dX6_advance_1 hq rfl ?_
  refine nk_ifeq (tgt := 8) dX6_advance_4 (by decide) (fun _ => ?_) (fun h4 => by first | exact absurd (rfl) h4 | exact absurd h4 (rfl))
  refine nk_aload_n (i := 0) dX6_advance_8 rfl rfl ?_
  refine nk_aload_n (i := 0) dX6_advance_9 rfl rfl ?_
  refine nk_getf fX6_22 dX6_advance_10 hq rfl ?_
  refine nk_putf pX6_19 dX6_advance_13 hq rfl rfl (Nat.le_of_ble_eq_true rfl) rfl ?_
  refine nk_aload_n (i := 0) dX6_advance_16 rfl rfl ?_
  refine nk_getf fX6_19 dX6_advance_17 (nk_u_self _ _ _) rfl ?_
  refine nk_aload_n (i := 0) dX6_advance_20 rfl rfl ?_
  refine nk_getf fX6_15 dX6_advance_21 (nk_u_self _ _ _) rfl ?_
  refine nk_icmplt (tgt := 35) dX6_advance_24 (by decide) (fun h24 => ?_) (fun h24 => ?_)
  · skip
    have hla := nk_ltI h24 (by omega) (by omega)
    have eT := hft a (by omega)
    refine nk_aload_n (i := 0) dX6_advance_35 rfl rfl ?_
    refine nk_getf fX6_9 dX6_advance_36 (nk_u_self _ _ _) rfl ?_
    refine nk_aload_n (i := 0) dX6_advance_39 rfl rfl ?_
    refine nk_getf fX6_19 dX6_advance_40 (nk_u_self _ _ _) rfl ?_
    refine nk_ialdN (j := a) dX6_advance_43 hy2 (rfl) (by omega) (by decide) ?_
    refine nk_istore_nT (i := 1) dX6_advance_44 rfl (by decide) ?_
    refine nk_iload_n (i := 1) dX6_advance_45 rfl rfl ?_
    refine nk_cSi kX6_81 (s_X6_isFigure) dX6_advance_46 rfl rfl (by decide) (Nat.le_of_ble_eq_true rfl) ?_
    refine nk_ifeq (tgt := 57) dX6_advance_49 (by decide) (fun h49 => ?_) (fun h49 => ?_)
    · skip
      simp only [nk_b0, Classical.not_not, eT] at h49
      refine nk_aload_n (i := 0) dX6_advance_57 rfl rfl ?_
      refine nk_aload_n (i := 0) dX6_advance_58 rfl rfl ?_
      refine nk_getf fX6_19 dX6_advance_59 (nk_u_self _ _ _) rfl ?_
      refine nk_iconst (v := 1) dX6_advance_62 (by decide) ?_
      refine nk_iadd dX6_advance_63 ?_
      refine nk_top (y := nI (a + 1)) (nI_1 a) ?_
      refine nk_putf pX6_22 dX6_advance_64 (nk_u_self _ _ _) rfl rfl (Nat.le_of_ble_eq_true rfl) rfl ?_
      refine nk_J.to ?_ rfl rfl (nk_u_u _ _ _ _)
      refine nk_aload_n (i := 0) dX6_advance_67 rfl rfl ?_
      refine nk_iload_n (i := 1) dX6_advance_68 rfl rfl ?_
      refine nk_bipush (v := 97) dX6_advance_69 (by decide) ?_
      refine nk_bipush (v := 122) dX6_advance_71 (by decide) ?_
      refine nk_cNi kX6_77 (s_X7_within) dX6_advance_73 rfl rfl (by decide) (Nat.le_of_ble_eq_true rfl) ?_
      refine nk_ifne (tgt := 91) dX6_advance_76 (by decide) (fun h76 => ?_) (fun h76 => ?_)
      · skip
        simp only [nk_b0, Classical.not_not, eT, show (97 : Int32).toInt = 97 from rfl, show (122 : Int32).toInt = 122 from rfl] at h76
        refine nk_iload_n (i := 1) dX6_advance_91 rfl rfl ?_
        refine nk_goto (tgt := 98) dX6_advance_92 (by decide) ?_
        refine nk_putf pX6_25 dX6_advance_98 (nk_u_self _ _ _) rfl rfl (Nat.le_of_ble_eq_true rfl) rfl ?_
        refine nk_J.to ?_ rfl rfl (nk_u_u _ _ _ _)
        refine nk_vreturn dX6_advance_101 rfl ?_
        have hnf : ¬ tp_fig T l a = true := fun z => h49 (tp_fig_iff.mp z).2
        have hx : ∀ t : Int32, t = (if lx_let (T a) then T a else 258) → lxr T l a t w0 (nI (a + 1)) := fun t ht => ⟨fun z => by omega, fun z => absurd z.1 hnf, fun z => absurd z hnf, fun _ _ => ⟨rfl, ht⟩⟩
        first
        | exact ⟨rfl, _, _, _, rfl, hx _ (by rw [eT, if_pos (Or.inl h76)])⟩
        | exact ⟨rfl, _, _, _, rfl, hx _ (by rw [eT, if_pos (Or.inr (Or.inl h82))])⟩
        | exact ⟨rfl, _, _, _, rfl, hx _ (by rw [eT, if_pos (Or.inr (Or.inr h88))])⟩
        | exact ⟨rfl, _, _, _, rfl, hx _ (by rw [eT, if_pos (Or.inr (Or.inr (Classical.not_not.mp h88)))])⟩
        | exact ⟨rfl, _, _, _, rfl, hx _ (if_neg (fun z => z.elim h76 (fun z => z.elim h82 h88))).symm⟩
      · skip
        simp only [nk_b0, Classical.not_not, eT, show (97 : Int32).toInt = 97 from rfl, show (122 : Int32).toInt = 122 from rfl] at h76
        refine nk_iload_n (i := 1) dX6_advance_79 rfl rfl ?_
        refine nk_bipush (v := 44) dX6_advance_80 (by decide) ?_
        refine nk_icmpeq (tgt := 91) dX6_advance_82 (by decide) (fun h82 => ?_) (fun h82 => ?_)
        · skip
          rw [eT] at h82
          refine nk_iload_n (i := 1) dX6_advance_91 rfl rfl ?_
          refine nk_goto (tgt := 98) dX6_advance_92 (by decide) ?_
          refine nk_putf pX6_25 dX6_advance_98 (nk_u_self _ _ _) rfl rfl (Nat.le_of_ble_eq_true rfl) rfl ?_
          refine nk_J.to ?_ rfl rfl (nk_u_u _ _ _ _)
          refine nk_vreturn dX6_advance_101 rfl ?_
          have hnf : ¬ tp_fig T l a = true := fun z => h49 (tp_fig_iff.mp z).2
          have hx : ∀ t : Int32, t = (if lx_let (T a) then T a else 258) → lxr T l a t w0 (nI (a + 1)) := fun t ht => ⟨fun z => by omega, fun z => absurd z.1 hnf, fun z => absurd z hnf, fun _ _ => ⟨rfl, ht⟩⟩
          first
          | exact ⟨rfl, _, _, _, rfl, hx _ (by rw [eT, if_pos (Or.inl h76)])⟩
          | exact ⟨rfl, _, _, _, rfl, hx _ (by rw [eT, if_pos (Or.inr (Or.inl h82))])⟩
          | exact ⟨rfl, _, _, _, rfl, hx _ (by rw [eT, if_pos (Or.inr (Or.inr h88))])⟩
          | exact ⟨rfl, _, _, _, rfl, hx _ (by rw [eT, if_pos (Or.inr (Or.inr (Classical.not_not.mp h88)))])⟩
          | exact ⟨rfl, _, _, _, rfl, hx _ (if_neg (fun z => z.elim h76 (fun z => z.elim h82 h88))).symm⟩
        · skip
          rw [eT] at h82
          refine nk_iload_n (i := 1) dX6_advance_85 rfl rfl ?_
          refine nk_bipush (v := 59) dX6_advance_86 (by decide) ?_
          refine nk_icmpne (tgt := 95) dX6_advance_88 (by decide) (fun h88 => ?_) (fun h88 => ?_)
          · skip
            rw [eT] at h88
            refine nk_sipush (v := 258) dX6_advance_95 (by decide) ?_
            refine nk_putf pX6_25 dX6_advance_98 (nk_u_self _ _ _) rfl rfl (Nat.le_of_ble_eq_true rfl) rfl ?_
            refine nk_J.to ?_ rfl rfl (nk_u_u _ _ _ _)
            refine nk_vreturn dX6_advance_101 rfl ?_
            have hnf : ¬ tp_fig T l a = true := fun z => h49 (tp_fig_iff.mp z).2
            have hx : ∀ t : Int32, t = (if lx_let (T a) then T a else 258) → lxr T l a t w0 (nI (a + 1)) := fun t ht => ⟨fun z => by omega, fun z => absurd z.1 hnf, fun z => absurd z hnf, fun _ _ => ⟨rfl, ht⟩⟩
            first
            | exact ⟨rfl, _, _, _, rfl, hx _ (by rw [eT, if_pos (Or.inl h76)])⟩
            | exact ⟨rfl, _, _, _, rfl, hx _ (by rw [eT, if_pos (Or.inr (Or.inl h82))])⟩
            | exact ⟨rfl, _, _, _, rfl, hx _ (by rw [eT, if_pos (Or.inr (Or.inr h88))])⟩
            | exact ⟨rfl, _, _, _, rfl, hx _ (by rw [eT, if_pos (Or.inr (Or.inr (Classical.not_not.mp h88)))])⟩
            | exact ⟨rfl, _, _, _, rfl, hx _ (if_neg (fun z => z.elim h76 (fun z => z.elim h82 h88))).symm⟩
          · skip
            rw [eT] at h88
            refine nk_iload_n (i := 1) dX6_advance_91 rfl rfl ?_
            refine nk_goto (tgt := 98) dX6_advance_92 (by decide) ?_
            refine nk_putf pX6_25 dX6_advance_98 (nk_u_self _ _ _) rfl rfl (Nat.le_of_ble_eq_true rfl) rfl ?_
            refine nk_J.to ?_ rfl rfl (nk_u_u _ _ _ _)
            refine nk_vreturn dX6_advance_101 rfl ?_
            have hnf : ¬ tp_fig T l a = true := fun z => h49 (tp_fig_iff.mp z).2
            have hx : ∀ t : Int32, t = (if lx_let (T a) then T a else 258) → lxr T l a t w0 (nI (a + 1)) := fun t ht => ⟨fun z => by omega, fun z => absurd z.1 hnf, fun z => absurd z hnf, fun _ _ => ⟨rfl, ht⟩⟩
            first
            | exact ⟨rfl, _, _, _, rfl, hx _ (by rw [eT, if_pos (Or.inl h76)])⟩
            | exact ⟨rfl, _, _, _, rfl, hx _ (by rw [eT, if_pos (Or.inr (Or.inl h82))])⟩
            | exact ⟨rfl, _, _, _, rfl, hx _ (by rw [eT, if_pos (Or.inr (Or.inr h88))])⟩
            | exact ⟨rfl, _, _, _, rfl, hx _ (by rw [eT, if_pos (Or.inr (Or.inr (Classical.not_not.mp h88)))])⟩
            | exact ⟨rfl, _, _, _, rfl, hx _ (if_neg (fun z => z.elim h76 (fun z => z.elim h82 h88))).symm⟩
    · skip
      simp only [nk_b0, Classical.not_not, eT] at h49
      refine nk_aload_n (i := 0) dX6_advance_52 rfl rfl ?_
      refine nk_cV (bc' := 0) (bs' := 0) kX6_85 (s_X6_takeFigures (T := T) (a := a) (nk_u_self _ _ _) hy2 hft hl (tp_fig_iff.mpr ⟨hla, h49⟩)) dX6_advance_53 (nk_u_self _ _ _) rfl rfl (by decide) (Nat.le_of_ble_eq_true rfl) ⟨Nat.le_refl _, Nat.le_refl _⟩ (fun r H2 hr => ?_)
      obtain ⟨rfl, bh, t, w, rfl, hx⟩ := hr
      refine nk_J.to ?_ rfl rfl (nk_u_u _ _ _ _)
      refine nk_vreturn dX6_advance_56 rfl ?_
      exact ⟨rfl, _, _, _, rfl, hx⟩
  · skip
    have hla := nk_nltI h24 (by omega) (by omega)
    refine nk_aload_n (i := 0) dX6_advance_27 rfl rfl ?_
    refine nk_sipush (v := 257) dX6_advance_28 (by decide) ?_
    refine nk_putf pX6_25 dX6_advance_31 (nk_u_self _ _ _) rfl rfl (Nat.le_of_ble_eq_true rfl) rfl ?_
    refine nk_J.to ?_ rfl rfl (nk_u_u _ _ _ _)
    refine nk_vreturn dX6_advance_34 rfl ?_
    exact ⟨rfl, _, _, _, rfl, ⟨fun _ => rfl, fun z => absurd (tp_fig_iff.mp z.1).1 (by omega), fun z => absurd (tp_fig_iff.mp z).1 (by omega), fun z => absurd z (by omega)⟩⟩

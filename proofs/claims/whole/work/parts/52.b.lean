/-! the class: the tape read -/
set_option maxRecDepth 20000 in
theorem s_X6_fail {G : nk_EG} {H : nk_AH} {q y l : Nat} {x1 x2 x3 x4 fl x : Int32} (hq : H q = some (tpc y l x1 x2 x3 x4 fl)) : nk_Sv G mX6_fail 1 [.ref q, .int x] H (nk_u H q (tpc y l x1 x2 x3 x4 (if fl = 0 then x else fl))) := by
  refine nk_S.of (by decide +kernel) (Nat.le_of_ble_eq_true rfl) rfl ?_
  refine nk_aload_n (i := 0) dX6_fail_0 rfl rfl ?_
  refine nk_getf fX6_31 dX6_fail_1 hq rfl ?_
  refine nk_ifne (tgt := 12) dX6_fail_4 (by decide) (fun h4 => ?_) (fun h4 => ?_)
  · skip
    refine nk_vreturn dX6_fail_12 rfl ?_
    first
    | exact ⟨rfl, by rw [if_pos h4]; rfl⟩
    | exact ⟨rfl, by rw [if_pos (Classical.not_not.mp h4)]; rfl⟩
    | exact ⟨rfl, by rw [if_neg h4, nk_u_at hq]⟩
  · skip
    refine nk_aload_n (i := 0) dX6_fail_7 rfl rfl ?_
    refine nk_iload_n (i := 1) dX6_fail_8 rfl rfl ?_
    refine nk_putf pX6_31 dX6_fail_9 hq rfl rfl (Nat.le_of_ble_eq_true rfl) rfl ?_
    refine nk_vreturn dX6_fail_12 rfl ?_
    first
    | exact ⟨rfl, by rw [if_pos h4]; rfl⟩
    | exact ⟨rfl, by rw [if_pos (Classical.not_not.mp h4)]; rfl⟩
    | exact ⟨rfl, by rw [if_neg h4, nk_u_at hq]⟩
set_option maxRecDepth 20000 in
theorem s_X6_advF {G : nk_EG} {H : nk_AH} {q y l : Nat} {x1 x2 x3 x4 fl : Int32} (hq : H q = some (tpc y l x1 x2 x3 x4 fl)) (hfl : ¬ fl = 0) : nk_Sv G mX6_advance 3 [.ref q] H H := by
  refine nk_S.of (by decide +kernel) (Nat.le_of_ble_eq_true rfl) rfl ?_
  refine nk_aload_n (i := 0) dX6_advance_0 rfl rfl ?_
  refine nk_getf fX6_31 dX6_advance_1 hq rfl ?_
  refine nk_ifeq (tgt := 8) dX6_advance_4 (by decide) (fun h4 => by first | exact absurd h4 (hfl) | exact absurd (hfl) h4) (fun _ => ?_)
  refine nk_vreturn dX6_advance_7 rfl ?_
  exact ⟨rfl, rfl⟩
set_option maxRecDepth 20000 in
theorem s_X6_expect {G : nk_EG} {H : nk_AH} {T : Nat → Int32} {q y l k a : Nat} {c : Int32} (hT : cTp H T q y l k a) (hl : l ≤ 110) (hk3 : k ≤ 3) (hc : c = 117 ∨ c = 44 ∨ c = 59) : nk_S G mX6_expect 4 0 0 [.ref q, .int c] H (fun r H' => r = none ∧ ∃ e, H' = nk_u H q e ∧ tS T y l (if k = 0 then (if tp_is T l a c then 0 else 1) else k) (if k = 0 ∧ tp_is T l a c then a + 1 else a) e) := by
  refine nk_S.of (by decide +kernel) (Nat.le_of_ble_eq_true rfl) rfl ?_
  obtain ⟨⟨e, hq, bh, t, w, rfl, hx⟩, f, hy, hft⟩ := hT
  by_cases hk : k = 0
  · subst hk
    obtain ⟨hal, hx⟩ := hx rfl
    have hi := hx.is hc
    simp only [if_pos, true_and]
    by_cases hc2 : tp_is T l a c
    · have hc3 := hi.1.mpr hc2
      have hbh := hi.2 hc2
      have hlt := hc2.1
      subst hbh
      rw [if_pos hc2, if_pos hc2]
      refine nk_aload_n (i := 0) dX6_expect_0 rfl rfl ?_
      refine nk_getf fX6_25 dX6_expect_1 hq rfl ?_
      refine nk_iload_n (i := 1) dX6_expect_4 rfl rfl ?_
      refine nk_icmpeq (tgt := 13) dX6_expect_5 (by decide) (fun _ => ?_) (fun h5 => by first | exact absurd (hc3) h5 | exact absurd h5 (hc3))
      refine nk_aload_n (i := 0) dX6_expect_13 rfl rfl ?_
      refine nk_cV (bc' := 0) (bs' := 0) kX6_34 (s_X6_adv (T := T) (a := a + 1) hq hy hft hl (by omega)) dX6_expect_14 hq rfl rfl (by decide) (Nat.le_of_ble_eq_true rfl) ⟨Nat.le_refl _, Nat.le_refl _⟩ (fun r H2 hr => ?_)
      obtain ⟨rfl, bh2, t2, w2, rfl, hx2⟩ := hr
      refine nk_vreturn dX6_expect_17 rfl ?_
      exact ⟨rfl, _, rfl, _, _, _, rfl, fun _ => ⟨by omega, hx2⟩⟩
    · have hc3 : ¬ t = c := fun z => hc2 (hi.1.mp z)
      rw [if_neg hc2, if_neg hc2]
      refine nk_aload_n (i := 0) dX6_expect_0 rfl rfl ?_
      refine nk_getf fX6_25 dX6_expect_1 hq rfl ?_
      refine nk_iload_n (i := 1) dX6_expect_4 rfl rfl ?_
      refine nk_icmpeq (tgt := 13) dX6_expect_5 (by decide) (fun h5 => by first | exact absurd h5 (hc3) | exact absurd (hc3) h5) (fun _ => ?_)
      refine nk_aload_n (i := 0) dX6_expect_8 rfl rfl ?_
      refine nk_iconst (v := 1) dX6_expect_9 (by decide) ?_
      refine nk_cVv kX6_57 (s_X6_fail hq) dX6_expect_10 hq rfl rfl (by decide) (Nat.le_of_ble_eq_true rfl) ?_
      refine nk_aload_n (i := 0) dX6_expect_13 rfl rfl ?_
      refine nk_cVv kX6_34 (s_X6_advF (nk_u_self _ _ _) (by decide)) dX6_expect_14 (nk_u_self _ _ _) rfl rfl (by decide) (Nat.le_of_ble_eq_true rfl) ?_
      refine nk_vreturn dX6_expect_17 rfl ?_
      exact ⟨rfl, _, rfl, _, _, _, rfl, fun z => by omega⟩
  · have hk0 : ¬ nI k = 0 := fun z => hk ((nk_k0 hk3).mp z)
    rw [if_neg hk, if_neg (fun z => hk z.1)]
    have hR : nk_u H q (tpc y l (nI a) bh t w (if nI k = 0 then 1 else nI k)) = H := by rw [if_neg hk0]; exact nk_u_at hq
    refine nk_aload_n (i := 0) dX6_expect_0 rfl rfl ?_
    refine nk_getf fX6_25 dX6_expect_1 hq rfl ?_
    refine nk_iload_n (i := 1) dX6_expect_4 rfl rfl ?_
    refine nk_icmpeq (tgt := 13) dX6_expect_5 (by decide) (fun h5 => ?_) (fun h5 => ?_)
    · skip
      refine nk_aload_n (i := 0) dX6_expect_13 rfl rfl ?_
      refine nk_cVv kX6_34 (s_X6_advF hq hk0) dX6_expect_14 hq rfl rfl (by decide) (Nat.le_of_ble_eq_true rfl) ?_
      refine nk_vreturn dX6_expect_17 rfl ?_
      exact ⟨rfl, _, (nk_u_at hq).symm, _, _, _, rfl, fun z => absurd z hk⟩
    · skip
      refine nk_aload_n (i := 0) dX6_expect_8 rfl rfl ?_
      refine nk_iconst (v := 1) dX6_expect_9 (by decide) ?_
      refine nk_cVv kX6_57 (s_X6_fail hq) dX6_expect_10 hq rfl rfl (by decide) (Nat.le_of_ble_eq_true rfl) ?_
      refine nk_J.to ?_ rfl rfl hR
      refine nk_aload_n (i := 0) dX6_expect_13 rfl rfl ?_
      refine nk_cVv kX6_34 (s_X6_advF hq hk0) dX6_expect_14 hq rfl rfl (by decide) (Nat.le_of_ble_eq_true rfl) ?_
      refine nk_vreturn dX6_expect_17 rfl ?_
      exact ⟨rfl, _, (nk_u_at hq).symm, _, _, _, rfl, fun z => absurd z hk⟩
set_option maxRecDepth 20000 in
theorem s_X6_readNumber {G : nk_EG} {H : nk_AH} {T : Nat → Int32} {q y l k a lo hi : Nat} (hT : cTp H T q y l k a) (hl : l ≤ 110) (hk3 : k ≤ 3) (hlo : lo < 2000) (hhi : hi < 2000) : nk_S G mX6_readNumber 4 0 0 [.ref q, .int (nI lo), .int (nI hi)] H (fun r H' => ∃ v e, r = some (.int v) ∧ H' = nk_u H q e ∧ tS T y l (if k = 0 then tp_f T l a lo hi else k) (if k = 0 ∧ tp_f T l a lo hi = 0 then tp_end T l a else a) e ∧ (k = 0 → tp_f T l a lo hi = 0 → v = nI (tp_num T l a))) := by
  refine nk_S.of (by decide +kernel) (Nat.le_of_ble_eq_true rfl) rfl ?_
  obtain ⟨⟨e, hq, bh, t, w, rfl, hx⟩, f, hy, hft⟩ := hT
  have elo : (nI lo).toInt = (lo : Int) := nI_toInt (by omega)
  have ehi : (nI hi).toInt = (hi : Int) := nI_toInt (by omega)
  by_cases hk : k = 0
  · subst hk
    obtain ⟨hal, hx⟩ := hx rfl
    have hi2 := hx.num
    simp only [if_pos, true_and]
    by_cases ho : tp_one T l a
    · have ho2 := hi2.mpr ho
      obtain ⟨-, hw, hbh⟩ := hx.2.1 ho
      have hle := tp_end_le ho
      have hn9 := tp_num_le ho
      have en : (nI (tp_num T l a)).toInt = (tp_num T l a : Int) := nI_toInt (by omega)
      subst hw
      subst hbh
      by_cases hr : lo ≤ tp_num T l a ∧ tp_num T l a ≤ hi
      · have hf0 : tp_f T l a lo hi = 0 := by unfold tp_f; rw [if_pos ho, if_pos hr]
        rw [hf0, if_pos rfl]
        have hw0 : ¬ (if (nI lo).toInt ≤ (nI (tp_num T l a)).toInt ∧ (nI (tp_num T l a)).toInt ≤ (nI hi).toInt then (1 : Int32) else 0) = 0 := by
          rw [nk_b0, Classical.not_not, elo, ehi, en]; omega
        refine nk_aload_n (i := 0) dX6_readNumber_0 rfl rfl ?_
        refine nk_getf fX6_25 dX6_readNumber_1 hq rfl ?_
        refine nk_sipush (v := 256) dX6_readNumber_4 (by decide) ?_
        refine nk_icmpeq (tgt := 18) dX6_readNumber_7 (by decide) (fun _ => ?_) (fun h7 => by first | exact absurd (ho2) h7 | exact absurd h7 (ho2))
        refine nk_aload_n (i := 0) dX6_readNumber_18 rfl rfl ?_
        refine nk_getf fX6_28 dX6_readNumber_19 hq rfl ?_
        refine nk_iload_n (i := 1) dX6_readNumber_22 rfl rfl ?_
        refine nk_iload_n (i := 2) dX6_readNumber_23 rfl rfl ?_
        refine nk_cNi kX6_77 (s_X7_within) dX6_readNumber_24 rfl rfl (by decide) (Nat.le_of_ble_eq_true rfl) ?_
        refine nk_ifne (tgt := 35) dX6_readNumber_27 (by decide) (fun _ => ?_) (fun h27 => by first | exact absurd (hw0) h27 | exact absurd h27 (hw0))
        refine nk_aload_n (i := 0) dX6_readNumber_35 rfl rfl ?_
        refine nk_getf fX6_28 dX6_readNumber_36 hq rfl ?_
        refine nk_istore_nT (i := 3) dX6_readNumber_39 rfl (by decide) ?_
        refine nk_aload_n (i := 0) dX6_readNumber_40 rfl rfl ?_
        refine nk_cV (bc' := 0) (bs' := 0) kX6_34 (s_X6_adv (T := T) (a := tp_end T l a) hq hy hft hl (by omega)) dX6_readNumber_41 hq rfl rfl (by decide) (Nat.le_of_ble_eq_true rfl) ⟨Nat.le_refl _, Nat.le_refl _⟩ (fun r H2 hr => ?_)
        obtain ⟨rfl, bh2, t2, w2, rfl, hx2⟩ := hr
        refine nk_iload_n (i := 3) dX6_readNumber_44 rfl rfl ?_
        refine nk_ireturn dX6_readNumber_45 rfl ?_
        exact ⟨_, _, rfl, rfl, ⟨_, _, _, rfl, fun _ => ⟨by omega, hx2⟩⟩, fun _ _ => rfl⟩
      · have hf0 : tp_f T l a lo hi = 2 := by unfold tp_f; rw [if_pos ho, if_neg hr]
        rw [hf0, if_neg (by decide)]
        have hw0 : (if (nI lo).toInt ≤ (nI (tp_num T l a)).toInt ∧ (nI (tp_num T l a)).toInt ≤ (nI hi).toInt then (1 : Int32) else 0) = 0 := by
          rw [nk_b0, elo, ehi, en]; omega
        refine nk_aload_n (i := 0) dX6_readNumber_0 rfl rfl ?_
        refine nk_getf fX6_25 dX6_readNumber_1 hq rfl ?_
        refine nk_sipush (v := 256) dX6_readNumber_4 (by decide) ?_
        refine nk_icmpeq (tgt := 18) dX6_readNumber_7 (by decide) (fun _ => ?_) (fun h7 => by first | exact absurd (ho2) h7 | exact absurd h7 (ho2))
        refine nk_aload_n (i := 0) dX6_readNumber_18 rfl rfl ?_
        refine nk_getf fX6_28 dX6_readNumber_19 hq rfl ?_
        refine nk_iload_n (i := 1) dX6_readNumber_22 rfl rfl ?_
        refine nk_iload_n (i := 2) dX6_readNumber_23 rfl rfl ?_
        refine nk_cNi kX6_77 (s_X7_within) dX6_readNumber_24 rfl rfl (by decide) (Nat.le_of_ble_eq_true rfl) ?_
        refine nk_ifne (tgt := 35) dX6_readNumber_27 (by decide) (fun h27 => by first | exact absurd h27 (hw0) | exact absurd (hw0) h27) (fun _ => ?_)
        refine nk_aload_n (i := 0) dX6_readNumber_30 rfl rfl ?_
        refine nk_iconst (v := 2) dX6_readNumber_31 (by decide) ?_
        refine nk_cVv kX6_57 (s_X6_fail hq) dX6_readNumber_32 hq rfl rfl (by decide) (Nat.le_of_ble_eq_true rfl) ?_
        refine nk_aload_n (i := 0) dX6_readNumber_35 rfl rfl ?_
        refine nk_getf fX6_28 dX6_readNumber_36 (nk_u_self _ _ _) rfl ?_
        refine nk_istore_nT (i := 3) dX6_readNumber_39 rfl (by decide) ?_
        refine nk_aload_n (i := 0) dX6_readNumber_40 rfl rfl ?_
        refine nk_cVv kX6_34 (s_X6_advF (nk_u_self _ _ _) (by decide)) dX6_readNumber_41 (nk_u_self _ _ _) rfl rfl (by decide) (Nat.le_of_ble_eq_true rfl) ?_
        refine nk_iload_n (i := 3) dX6_readNumber_44 rfl rfl ?_
        refine nk_ireturn dX6_readNumber_45 rfl ?_
        exact ⟨_, _, rfl, rfl, ⟨_, _, _, rfl, fun z => by omega⟩, fun _ z => absurd z (by decide)⟩
    · have hf0 : tp_f T l a lo hi = 1 := by unfold tp_f; rw [if_neg ho]
      have ho2 : ¬ t = 256 := fun z => ho (hi2.mp z)
      rw [hf0, if_neg (by decide)]
      refine nk_aload_n (i := 0) dX6_readNumber_0 rfl rfl ?_
      refine nk_getf fX6_25 dX6_readNumber_1 hq rfl ?_
      refine nk_sipush (v := 256) dX6_readNumber_4 (by decide) ?_
      refine nk_icmpeq (tgt := 18) dX6_readNumber_7 (by decide) (fun h7 => by first | exact absurd h7 (ho2) | exact absurd (ho2) h7) (fun _ => ?_)
      refine nk_aload_n (i := 0) dX6_readNumber_10 rfl rfl ?_
      refine nk_iconst (v := 1) dX6_readNumber_11 (by decide) ?_
      refine nk_cVv kX6_57 (s_X6_fail hq) dX6_readNumber_12 hq rfl rfl (by decide) (Nat.le_of_ble_eq_true rfl) ?_
      refine nk_goto (tgt := 35) dX6_readNumber_15 (by decide) ?_
      refine nk_aload_n (i := 0) dX6_readNumber_35 rfl rfl ?_
      refine nk_getf fX6_28 dX6_readNumber_36 (nk_u_self _ _ _) rfl ?_
      refine nk_istore_nT (i := 3) dX6_readNumber_39 rfl (by decide) ?_
      refine nk_aload_n (i := 0) dX6_readNumber_40 rfl rfl ?_
      refine nk_cVv kX6_34 (s_X6_advF (nk_u_self _ _ _) (by decide)) dX6_readNumber_41 (nk_u_self _ _ _) rfl rfl (by decide) (Nat.le_of_ble_eq_true rfl) ?_
      refine nk_iload_n (i := 3) dX6_readNumber_44 rfl rfl ?_
      refine nk_ireturn dX6_readNumber_45 rfl ?_
      exact ⟨_, _, rfl, rfl, ⟨_, _, _, rfl, fun z => by omega⟩, fun _ z => absurd z (by decide)⟩
  · have hk0 : ¬ nI k = 0 := fun z => hk ((nk_k0 hk3).mp z)
    rw [if_neg hk, if_neg (fun z => hk z.1)]
    have hR : ∀ x : Int32, nk_u H q (tpc y l (nI a) bh t w (if nI k = 0 then x else nI k)) = H := fun x => by rw [if_neg hk0]; exact nk_u_at hq
    refine nk_aload_n (i := 0) dX6_readNumber_0 rfl rfl ?_
    refine nk_getf fX6_25 dX6_readNumber_1 hq rfl ?_
    refine nk_sipush (v := 256) dX6_readNumber_4 (by decide) ?_
    refine nk_icmpeq (tgt := 18) dX6_readNumber_7 (by decide) (fun h7 => ?_) (fun h7 => ?_)
    · skip
      refine nk_aload_n (i := 0) dX6_readNumber_18 rfl rfl ?_
      refine nk_getf fX6_28 dX6_readNumber_19 hq rfl ?_
      refine nk_iload_n (i := 1) dX6_readNumber_22 rfl rfl ?_
      refine nk_iload_n (i := 2) dX6_readNumber_23 rfl rfl ?_
      refine nk_cNi kX6_77 (s_X7_within) dX6_readNumber_24 rfl rfl (by decide) (Nat.le_of_ble_eq_true rfl) ?_
      refine nk_ifne (tgt := 35) dX6_readNumber_27 (by decide) (fun h27 => ?_) (fun h27 => ?_)
      · skip
        refine nk_aload_n (i := 0) dX6_readNumber_35 rfl rfl ?_
        refine nk_getf fX6_28 dX6_readNumber_36 hq rfl ?_
        refine nk_istore_nT (i := 3) dX6_readNumber_39 rfl (by decide) ?_
        refine nk_aload_n (i := 0) dX6_readNumber_40 rfl rfl ?_
        refine nk_cVv kX6_34 (s_X6_advF hq hk0) dX6_readNumber_41 hq rfl rfl (by decide) (Nat.le_of_ble_eq_true rfl) ?_
        refine nk_iload_n (i := 3) dX6_readNumber_44 rfl rfl ?_
        refine nk_ireturn dX6_readNumber_45 rfl ?_
        exact ⟨_, _, rfl, (nk_u_at hq).symm, ⟨_, _, _, rfl, fun z => absurd z hk⟩, fun z => absurd z hk⟩
      · skip
        refine nk_aload_n (i := 0) dX6_readNumber_30 rfl rfl ?_
        refine nk_iconst (v := 2) dX6_readNumber_31 (by decide) ?_
        refine nk_cVv kX6_57 (s_X6_fail hq) dX6_readNumber_32 hq rfl rfl (by decide) (Nat.le_of_ble_eq_true rfl) ?_
        refine nk_J.to ?_ rfl rfl (hR _)
        refine nk_aload_n (i := 0) dX6_readNumber_35 rfl rfl ?_
        refine nk_getf fX6_28 dX6_readNumber_36 hq rfl ?_
        refine nk_istore_nT (i := 3) dX6_readNumber_39 rfl (by decide) ?_
        refine nk_aload_n (i := 0) dX6_readNumber_40 rfl rfl ?_
        refine nk_cVv kX6_34 (s_X6_advF hq hk0) dX6_readNumber_41 hq rfl rfl (by decide) (Nat.le_of_ble_eq_true rfl) ?_
        refine nk_iload_n (i := 3) dX6_readNumber_44 rfl rfl ?_
        refine nk_ireturn dX6_readNumber_45 rfl ?_
        exact ⟨_, _, rfl, (nk_u_at hq).symm, ⟨_, _, _, rfl, fun z => absurd z hk⟩, fun z => absurd z hk⟩
    · skip
      refine nk_aload_n (i := 0) dX6_readNumber_10 rfl rfl ?_
      refine nk_iconst (v := 1) dX6_readNumber_11 (by decide) ?_
      refine nk_cVv kX6_57 (s_X6_fail hq) dX6_readNumber_12 hq rfl rfl (by decide) (Nat.le_of_ble_eq_true rfl) ?_
      refine nk_J.to ?_ rfl rfl (hR _)
      refine nk_goto (tgt := 35) dX6_readNumber_15 (by decide) ?_
      refine nk_aload_n (i := 0) dX6_readNumber_35 rfl rfl ?_
      refine nk_getf fX6_28 dX6_readNumber_36 hq rfl ?_
      refine nk_istore_nT (i := 3) dX6_readNumber_39 rfl (by decide) ?_
      refine nk_aload_n (i := 0) dX6_readNumber_40 rfl rfl ?_
      refine nk_cVv kX6_34 (s_X6_advF hq hk0) dX6_readNumber_41 hq rfl rfl (by decide) (Nat.le_of_ble_eq_true rfl) ?_
      refine nk_iload_n (i := 3) dX6_readNumber_44 rfl rfl ?_
      refine nk_ireturn dX6_readNumber_45 rfl ?_
      exact ⟨_, _, rfl, (nk_u_at hq).symm, ⟨_, _, _, rfl, fun z => absurd z hk⟩, fun z => absurd z hk⟩

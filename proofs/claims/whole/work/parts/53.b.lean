/-! the class: a set read from the tape -/
set_option maxRecDepth 20000 in
theorem l_rs_end {G : nk_EG} {H : nk_AH} {T : Nat → Int32} {q y l k a i : Nat} {l1 l2 l3 l6 : Option Value} {Φ : Option Value → nk_AH → Prop} (hT : cTp H T q y l k a) (hl : l ≤ 110) (hk3 : k ≤ 3) (hi : i ≤ 110) (kk : ∀ e, tS T y l (if k = 0 then (if tp_is T l a 59 then 0 else 1) else k) (if k = 0 ∧ tp_is T l a 59 then a + 1 else a) e → Φ none (nk_u H q e)) : nk_J G mX6_readSet 5 Φ 0 0 40 [some (.ref q), l1, l2, l3, some (.int 0), some (.int (nI i)), l6] [] H := by
  obtain ⟨⟨c, hq, hc⟩, -⟩ := id hT
  obtain ⟨bh, t, w, rfl, -⟩ := hc
  refine nk_iload dX6_readSet_40 rfl ?_
  refine nk_bipush (v := 110) dX6_readSet_42 (by decide) ?_
  refine nk_icmpge (tgt := 116) dX6_readSet_44 (by decide) (fun h44 => ?_) (fun h44 => ?_)
  · skip
    refine nk_aload_n (i := 0) dX6_readSet_116 rfl rfl ?_
    refine nk_bipush (v := 59) dX6_readSet_117 (by decide) ?_
    refine nk_cV (bc' := 0) (bs' := 0) kX6_37 (s_X6_expect hT hl hk3 (Or.inr (Or.inr rfl))) dX6_readSet_119 hq rfl rfl (by decide) (Nat.le_of_ble_eq_true rfl) ⟨Nat.le_refl _, Nat.le_refl _⟩ (fun r H2 hr => ?_)
    obtain ⟨rfl, e, rfl, he⟩ := hr
    refine nk_vreturn dX6_readSet_122 rfl ?_
    exact kk e he
  · skip
    refine nk_iload dX6_readSet_47 rfl ?_
    refine nk_ifeq (tgt := 116) dX6_readSet_49 (by decide) (fun _ => ?_) (fun h49 => by first | exact absurd (rfl) h49 | exact absurd h49 (rfl))
    refine nk_aload_n (i := 0) dX6_readSet_116 rfl rfl ?_
    refine nk_bipush (v := 59) dX6_readSet_117 (by decide) ?_
    refine nk_cV (bc' := 0) (bs' := 0) kX6_37 (s_X6_expect hT hl hk3 (Or.inr (Or.inr rfl))) dX6_readSet_119 hq rfl rfl (by decide) (Nat.le_of_ble_eq_true rfl) ⟨Nat.le_refl _, Nat.le_refl _⟩ (fun r H2 hr => ?_)
    obtain ⟨rfl, e, rfl, he⟩ := hr
    refine nk_vreturn dX6_readSet_122 rfl ?_
    exact kk e he
set_option maxRecDepth 20000 in
theorem l_rs {G : nk_EG} {H0 : nk_AH} {T : Nat → Int32} {q y l s sa n b : Nat} {qs ws : Nat → Nat} {κ : Int32} (hl : l ≤ 110) (hn : n < 4) (hb2 : 2 ≤ b) (hb10 : b ≤ 10) (hy0 : ∃ c, nk_d H0 q y = some c) : ∀ (g a i : Nat) (f : Nat → Int32) (H : nk_AH) (l6 : Option Value) (hp : prs H0 H T q y l 0 a s sa (n + 1) b qs ws f) (hbh : ∃ t w, H q = some (tpc y l (nI a) (nI (a + 1)) t w 0)) (hal : a < l) (hia : i ≤ a) (hg : l < a + g), nk_J G mX6_readSet 5 (fun r H' => r = none ∧ ∃ f', prs H0 H' T q y l (tp_ks T l (2 ^ b - 1) n g a f).1 (tp_ks T l (2 ^ b - 1) n g a f).2.1 s sa (n + 1) b qs ws f' ∧ ((tp_ks T l (2 ^ b - 1) n g a f).1 = 0 → f' = (tp_ks T l (2 ^ b - 1) n g a f).2.2)) 0 0 40 [some (.ref q), some (.ref s), some (.int κ), some (.ref (qs n)), some (.int 1), some (.int (nI i)), l6] [] H := by
  intro g
  induction g with
  | zero => intro a i f H l6 hp hbh hal hia hg; omega
  | succ g ih =>
    intro a i f H l6 hp hbh hal hia hg
    obtain ⟨t, w, hq⟩ := hbh
    obtain ⟨fy, hy, hft⟩ := hp.2.2
    have hwm := wm_f b hb10 hb2
    have h110 : ¬ (110 : Int32) ≤ nI i := fun z => by have := nk_leI (a := 110) z (by omega) (by omega); omega
    refine nk_iload dX6_readSet_40 rfl ?_
    refine nk_bipush (v := 110) dX6_readSet_42 (by decide) ?_
    refine nk_icmpge (tgt := 116) dX6_readSet_44 (by decide) (fun h44 => by first | exact absurd h44 (h110) | exact absurd (h110) h44) (fun _ => ?_)
    refine nk_iload dX6_readSet_47 rfl ?_
    refine nk_ifeq (tgt := 116) dX6_readSet_49 (by decide) (fun h49 => by first | exact absurd h49 (by decide) | exact absurd (by decide) h49) (fun _ => ?_)
    refine nk_aload_n (i := 0) dX6_readSet_52 rfl rfl ?_
    refine nk_cV (bc' := 0) (bs' := 0) kX6_34 (s_X6_adv (T := T) (a := a + 1) hq hy hft hl (by omega)) dX6_readSet_53 hq rfl rfl (by decide) (Nat.le_of_ble_eq_true rfl) ⟨Nat.le_refl _, Nat.le_refl _⟩ (fun r H2 hr => ?_)
    obtain ⟨rfl, bh2, t2, w2, rfl, hx2⟩ := hr
    have hp2 := hp.q (e := tpc y l (nI (a + 1)) bh2 t2 w2 0) (k' := 0) (a' := a + 1) ⟨_, _, _, rfl, fun _ => ⟨by omega, hx2⟩⟩
    refine nk_aload_n (i := 0) dX6_readSet_56 rfl rfl ?_
    refine nk_iconst (v := 0) dX6_readSet_57 (by decide) ?_
    refine nk_aload_n (i := 3) dX6_readSet_58 rfl rfl ?_
    refine nk_getf fX6_64 dX6_readSet_59 (hp2.1.2.1.2.2 n (by omega)).o rfl ?_
    refine nk_iconst (v := 1) dX6_readSet_62 (by decide) ?_
    refine nk_isub dX6_readSet_63 ?_
    refine nk_bipush (v := 99) dX6_readSet_64 (by decide) ?_
    refine nk_cSi kX6_69 (s_J9_min_7cf53) dX6_readSet_66 rfl rfl (by decide) (Nat.le_of_ble_eq_true rfl) ?_
    refine nk_top (y := nI (min (nk_tp b - 1) 99)) (nk_min99 (by omega) (by omega)) ?_
    obtain ⟨⟨c2, hc2, -⟩, -⟩ := id hp2.2
    refine nk_cV (bc' := 0) (bs' := 0) kX6_41 (s_X6_readNumber hp2.2 hl (by omega) (lo := 0) (hi := min (nk_tp b - 1) 99) (by omega) (by omega)) dX6_readSet_69 (nk_u_self _ _ _) rfl rfl (by decide) (Nat.le_of_ble_eq_true rfl) ⟨Nat.le_refl _, Nat.le_refl _⟩ (fun r H3 hr => ?_)
    obtain ⟨v, e, rfl, rfl, hts, hv⟩ := hr
    rw [tp_f_99, hwm.2.2.2.2.2.1] at hts hv
    simp only [if_pos, true_and] at hts
    have hp3 := hp2.q hts
    obtain ⟨bh3, t3, w3, rfl, hx3⟩ := hts
    have hk3 := tp_f_le (T := T) (l := l) (a := a + 1) (lo := 0) (hi := 2 ^ b - 1)
    rw [nk_u_u] at hp3
    refine nk_J.to ?_ rfl rfl (nk_u_u _ _ _ _)
    by_cases hf : tp_f T l (a + 1) 0 (2 ^ b - 1) = 0
    · have hv2 := hv rfl hf
      have hon := (tp_f_one hf).1
      have hnum := (tp_f_one hf).2.2
      have hen := tp_end_le hon
      have hx4 := hx3 hf
      rw [if_pos hf] at hx4 hp3 ⊢
      rw [hf] at hp3 ⊢
      subst hv2
      obtain ⟨gk, hk4, hgk⟩ := hp3.1.2.1.2.2 n (by omega)
      have hwy : ws n ≠ y := fun z => by
        obtain ⟨c, hc⟩ := hy0
        rw [← z, (hp3.1.2.2.2.2.1 n (by omega)).2] at hc; cases hc
      have hp5 := hp3.put hn hb2 hb10 (x := tp_num T l (a + 1)) (by omega) hk4 hgk hwy
      have hq4 : ∀ {c}, nk_u (nk_u H q (tpc y l (nI (tp_end T l (a + 1))) bh3 t3 w3 (nI 0))) (ws n) (inc (nk_wm b) c) q = some (tpc y l (nI (tp_end T l (a + 1))) bh3 t3 w3 (nI 0)) := fun {c} => by
        rw [nk_u_ne (nk_cdif (nk_u_self H q _) hk4.2 (by intro z; cases z)), nk_u_self]
      by_cases h44 : tp_is T l (tp_end T l (a + 1)) 44
      · have hi4 := hx4.2.is (c := 44) (Or.inr (Or.inl rfl))
        have ht4 := hi4.1.mpr h44
        rw [tp_ks_c hf h44]
        refine nk_istoreT dX6_readSet_72 (by decide) ?_
        refine nk_aload_n (i := 0) dX6_readSet_74 rfl rfl ?_
        refine nk_getf fX6_31 dX6_readSet_75 (nk_u_self _ _ _) rfl ?_
        refine nk_ifne (tgt := 87) dX6_readSet_78 (by decide) (fun h78 => by first | exact absurd h78 (by decide) | exact absurd (by decide) h78) (fun _ => ?_)
        refine nk_aload_n (i := 3) dX6_readSet_81 rfl rfl ?_
        refine nk_iload dX6_readSet_82 rfl ?_
        refine nk_cVv kX6_74 (s_X2_put hk4 hb2 hb10 (k := tp_num T l (a + 1)) (by omega)) dX6_readSet_84 hk4.1 rfl rfl (by decide) (Nat.le_of_ble_eq_true rfl) ?_
        refine nk_aload_n (i := 0) dX6_readSet_87 rfl rfl ?_
        refine nk_getf fX6_31 dX6_readSet_88 hq4 rfl ?_
        refine nk_ifne (tgt := 107) dX6_readSet_91 (by decide) (fun h91 => by first | exact absurd h91 (by decide) | exact absurd (by decide) h91) (fun _ => ?_)
        refine nk_aload_n (i := 0) dX6_readSet_94 rfl rfl ?_
        refine nk_getf fX6_25 dX6_readSet_95 hq4 rfl ?_
        refine nk_bipush (v := 44) dX6_readSet_98 (by decide) ?_
        refine nk_icmpne (tgt := 107) dX6_readSet_100 (by decide) (fun h100 => by first | exact absurd h100 ((fun z => z ht4)) | exact absurd ((fun z => z ht4)) h100) (fun _ => ?_)
        refine nk_iconst (v := 1) dX6_readSet_103 (by decide) ?_
        refine nk_goto (tgt := 108) dX6_readSet_104 (by decide) ?_
        refine nk_istoreT dX6_readSet_108 (by decide) ?_
        refine nk_iincT dX6_readSet_110 rfl (nk_i1 i) (by decide) ?_
        refine nk_goto (tgt := 40) dX6_readSet_113 (by decide) ?_
        exact ih (tp_end T l (a + 1)) (i + 1) _ _ _ hp5 ⟨_, _, by rw [hq4, hi4.2 h44]; rfl⟩ h44.1 (by omega) (by omega)
      · have hi4 := hx4.2.is (c := 44) (Or.inr (Or.inl rfl))
        have ht4 : ¬ t3 = 44 := fun z => h44 (hi4.1.mp z)
        refine nk_istoreT dX6_readSet_72 (by decide) ?_
        refine nk_aload_n (i := 0) dX6_readSet_74 rfl rfl ?_
        refine nk_getf fX6_31 dX6_readSet_75 (nk_u_self _ _ _) rfl ?_
        refine nk_ifne (tgt := 87) dX6_readSet_78 (by decide) (fun h78 => by first | exact absurd h78 (by decide) | exact absurd (by decide) h78) (fun _ => ?_)
        refine nk_aload_n (i := 3) dX6_readSet_81 rfl rfl ?_
        refine nk_iload dX6_readSet_82 rfl ?_
        refine nk_cVv kX6_74 (s_X2_put hk4 hb2 hb10 (k := tp_num T l (a + 1)) (by omega)) dX6_readSet_84 hk4.1 rfl rfl (by decide) (Nat.le_of_ble_eq_true rfl) ?_
        refine nk_aload_n (i := 0) dX6_readSet_87 rfl rfl ?_
        refine nk_getf fX6_31 dX6_readSet_88 hq4 rfl ?_
        refine nk_ifne (tgt := 107) dX6_readSet_91 (by decide) (fun h91 => by first | exact absurd h91 (by decide) | exact absurd (by decide) h91) (fun _ => ?_)
        refine nk_aload_n (i := 0) dX6_readSet_94 rfl rfl ?_
        refine nk_getf fX6_25 dX6_readSet_95 hq4 rfl ?_
        refine nk_bipush (v := 44) dX6_readSet_98 (by decide) ?_
        refine nk_icmpne (tgt := 107) dX6_readSet_100 (by decide) (fun _ => ?_) (fun h100 => by first | exact absurd (ht4) h100 | exact absurd h100 (ht4))
        refine nk_iconst (v := 0) dX6_readSet_107 (by decide) ?_
        refine nk_istoreT dX6_readSet_108 (by decide) ?_
        refine nk_iincT dX6_readSet_110 rfl (nk_i1 i) (by decide) ?_
        refine nk_goto (tgt := 40) dX6_readSet_113 (by decide) ?_
        refine l_rs_end hp5.2 hl (by omega) (by omega) (fun e he => ?_)
        have hp6 := hp5.q he
        by_cases h59 : tp_is T l (tp_end T l (a + 1)) 59
        · rw [tp_ks_s hf h44 h59]
          rw [if_pos rfl, if_pos h59, if_pos ⟨rfl, h59⟩] at hp6
          exact ⟨rfl, _, hp6, fun _ => rfl⟩
        · rw [tp_ks_x hf h44 h59]
          rw [if_pos rfl, if_neg h59, if_neg (fun z => h59 z.2)] at hp6
          exact ⟨rfl, _, hp6, fun z => absurd z Nat.one_ne_zero⟩
    · rw [if_neg hf] at hp3 ⊢
      have hne : ¬ nI (tp_f T l (a + 1) 0 (2 ^ b - 1)) = 0 := fun z => hf ((nk_k0 hk3).mp z)
      refine nk_istoreT dX6_readSet_72 (by decide) ?_
      refine nk_aload_n (i := 0) dX6_readSet_74 rfl rfl ?_
      refine nk_getf fX6_31 dX6_readSet_75 (nk_u_self _ _ _) rfl ?_
      refine nk_ifne (tgt := 87) dX6_readSet_78 (by decide) (fun _ => ?_) (fun h78 => by first | exact absurd (hne) h78 | exact absurd h78 (hne))
      refine nk_aload_n (i := 0) dX6_readSet_87 rfl rfl ?_
      refine nk_getf fX6_31 dX6_readSet_88 (nk_u_self _ _ _) rfl ?_
      refine nk_ifne (tgt := 107) dX6_readSet_91 (by decide) (fun _ => ?_) (fun h91 => by first | exact absurd (hne) h91 | exact absurd h91 (hne))
      refine nk_iconst (v := 0) dX6_readSet_107 (by decide) ?_
      refine nk_istoreT dX6_readSet_108 (by decide) ?_
      refine nk_iincT dX6_readSet_110 rfl (nk_i1 i) (by decide) ?_
      refine nk_goto (tgt := 40) dX6_readSet_113 (by decide) ?_
      refine l_rs_end hp3.2 hl hk3 (by omega) (fun e he => ?_)
      have hp6 := hp3.q he
      rw [if_neg hf, if_neg (fun z => hf z.1)] at hp6
      rw [tp_ks_0 hf]
      exact ⟨rfl, _, hp6, fun z => absurd z hf⟩
set_option maxRecDepth 20000 in
theorem s_X6_readSet {G : nk_EG} {H0 H : nk_AH} {T : Nat → Int32} {q y l a s sa n b : Nat} {qs ws : Nat → Nat} {f : Nat → Int32} (hl : l ≤ 110) (hn : n ≤ 4) (hb2 : 2 ≤ b) (hb10 : b ≤ 10) (hy0 : ∃ c, nk_d H0 q y = some c) (hp : prs H0 H T q y l 0 a s sa n b qs ws f) (hz : ∀ i, 6 + 32 * n ≤ i → f i = 0) : nk_S G mX6_readSet 5 2 38 [.ref q, .ref s] H (fun r H' => r = none ∧ ∃ n' qs' ws' f', n' ≤ 4 ∧ prs H0 H' T q y l (if a < l ∧ ¬ tp_kind (T a) = 0 then tp_set T l (2 ^ b - 1) n a f else (1, a, f)).1 (if a < l ∧ ¬ tp_kind (T a) = 0 then tp_set T l (2 ^ b - 1) n a f else (1, a, f)).2.1 s sa n' b qs' ws' f' ∧ ((if a < l ∧ ¬ tp_kind (T a) = 0 then tp_set T l (2 ^ b - 1) n a f else (1, a, f)).1 = 0 → n' = n + 1 ∧ f' = (if a < l ∧ ¬ tp_kind (T a) = 0 then tp_set T l (2 ^ b - 1) n a f else (1, a, f)).2.2)) := by
  refine nk_S.of (by decide +kernel) (Nat.le_of_ble_eq_true rfl) rfl ?_
  obtain ⟨⟨c, hq, hc⟩, -⟩ := id hp.2
  obtain ⟨bh, t, w, rfl, hx⟩ := hc
  obtain ⟨hal, hx⟩ := hx rfl
  have hkd := hx.kind
  by_cases hk : tp_kind t = 0
  · have hR : ¬ (a < l ∧ ¬ tp_kind (T a) = 0) := fun z => by rw [hkd.1, if_pos z.1] at hk; exact z.2 hk
    simp only [if_neg hR]
    refine nk_aload_n (i := 0) dX6_readSet_0 rfl rfl ?_
    refine nk_getf fX6_25 dX6_readSet_1 hq rfl ?_
    refine nk_cSi kX6_53 (s_X6_sortOf) dX6_readSet_4 rfl rfl (by decide) (Nat.le_of_ble_eq_true rfl) ?_
    refine nk_istore_nT (i := 2) dX6_readSet_7 rfl (by decide) ?_
    refine nk_iload_n (i := 2) dX6_readSet_8 rfl rfl ?_
    refine nk_ifne (tgt := 18) dX6_readSet_9 (by decide) (fun h9 => by first | exact absurd h9 ((fun z => z hk)) | exact absurd ((fun z => z hk)) h9) (fun _ => ?_)
    refine nk_aload_n (i := 0) dX6_readSet_12 rfl rfl ?_
    refine nk_iconst (v := 1) dX6_readSet_13 (by decide) ?_
    refine nk_cVv kX6_57 (s_X6_fail hq) dX6_readSet_14 hq rfl rfl (by decide) (Nat.le_of_ble_eq_true rfl) ?_
    refine nk_vreturn dX6_readSet_17 rfl ?_
    exact ⟨rfl, n, qs, ws, f, hn, hp.q ⟨_, _, _, rfl, fun z => by omega⟩, fun z => absurd z (by decide)⟩
  · obtain ⟨hlt, hbh⟩ := hkd.2 hk
    have hkt : tp_kind t = tp_kind (T a) := by rw [hkd.1, if_pos hlt]
    have hR : a < l ∧ ¬ tp_kind (T a) = 0 := ⟨hlt, by rw [← hkt]; exact hk⟩
    simp only [if_pos hR]
    by_cases h4 : n = 4
    · subst h4
      have hset : tp_set T l (2 ^ b - 1) 4 a f = (3, a, f) := by unfold tp_set; rw [if_pos rfl]
      rw [hset]
      refine nk_aload_n (i := 0) dX6_readSet_0 rfl rfl ?_
      refine nk_getf fX6_25 dX6_readSet_1 hq rfl ?_
      refine nk_cSi kX6_53 (s_X6_sortOf) dX6_readSet_4 rfl rfl (by decide) (Nat.le_of_ble_eq_true rfl) ?_
      refine nk_istore_nT (i := 2) dX6_readSet_7 rfl (by decide) ?_
      refine nk_iload_n (i := 2) dX6_readSet_8 rfl rfl ?_
      refine nk_ifne (tgt := 18) dX6_readSet_9 (by decide) (fun _ => ?_) (fun h9 => by first | exact absurd (hk) h9 | exact absurd h9 (hk))
      refine nk_aload_n (i := 1) dX6_readSet_18 rfl rfl ?_
      refine nk_iload_n (i := 2) dX6_readSet_19 rfl rfl ?_
      refine nk_cVq kX6_60 (s_X5_append4 hp.1.2.1) dX6_readSet_20 hp.1.2.1.1 rfl rfl (by decide) (Nat.le_of_ble_eq_true rfl) ?_
      refine nk_J.to (st' := [.null]) ?_ rfl rfl rfl
      refine nk_astore_nNT (i := 3) dX6_readSet_23 rfl (by decide) ?_
      refine nk_aload_nN (i := 3) dX6_readSet_24 rfl rfl ?_
      refine nk_ifnonnullN dX6_readSet_25 ?_
      refine nk_aload_n (i := 0) dX6_readSet_28 rfl rfl ?_
      refine nk_iconst (v := 3) dX6_readSet_29 (by decide) ?_
      refine nk_cVv kX6_57 (s_X6_fail hq) dX6_readSet_30 hq rfl rfl (by decide) (Nat.le_of_ble_eq_true rfl) ?_
      refine nk_vreturn dX6_readSet_33 rfl ?_
      exact ⟨rfl, 4, qs, ws, f, by omega, hp.q ⟨_, _, _, rfl, fun z => by omega⟩, fun z => absurd z (show ¬ (3 : Nat) = 0 by decide)⟩
    · have hset : tp_set T l (2 ^ b - 1) n a f = tp_ks T l (2 ^ b - 1) n (l + 1) a (upd f (2 + n) (tp_kind (T a))) := by unfold tp_set; rw [if_neg h4]
      rw [hset]
      refine nk_aload_n (i := 0) dX6_readSet_0 rfl rfl ?_
      refine nk_getf fX6_25 dX6_readSet_1 hq rfl ?_
      refine nk_cSi kX6_53 (s_X6_sortOf) dX6_readSet_4 rfl rfl (by decide) (Nat.le_of_ble_eq_true rfl) ?_
      refine nk_istore_nT (i := 2) dX6_readSet_7 rfl (by decide) ?_
      refine nk_iload_n (i := 2) dX6_readSet_8 rfl rfl ?_
      refine nk_ifne (tgt := 18) dX6_readSet_9 (by decide) (fun _ => ?_) (fun h9 => by first | exact absurd (hk) h9 | exact absurd h9 (hk))
      refine nk_aload_n (i := 1) dX6_readSet_18 rfl rfl ?_
      refine nk_iload_n (i := 2) dX6_readSet_19 rfl rfl ?_
      refine nk_cV (bc' := 0) (bs' := 0) kX6_60 (s_X5_append hp.1.2.1 hn hb2 hb10 (by omega)) dX6_readSet_20 hp.1.2.1.1 rfl rfl (by decide) (Nat.le_of_ble_eq_true rfl) ⟨Nat.le_refl _, Nat.le_refl _⟩ (fun r H2 hr => ?_)
      obtain ⟨q1, w1, hq1, hw1, hne, rfl, rfl⟩ := hr
      have hp1 := hp.new (κ := tp_kind t) (by omega) hb2 hb10 hq1 hw1 hne hz
      rw [hkt] at hp1 ⊢
      obtain ⟨⟨c, hq2, hc2⟩, -⟩ := id hp1.2
      have hq3 : ap H s sa n b qs (tp_kind (T a)) q1 w1 q = some (tpc y l (nI a) (nI (a + 1)) t w 0) := by
        rw [ap_at hp.1.2.1 (nk_cdif hq hp.1.2.1.1 (by intro z; simp at z)) (nk_cdif hq hp.1.2.1.2.1 (by intro z; cases z)) (nk_ne hq hq1) (nk_ne hq hw1), ← hbh]; exact hq
      refine nk_astore_nT (i := 3) dX6_readSet_23 rfl (by decide) ?_
      refine nk_aload_n (i := 3) dX6_readSet_24 rfl rfl ?_
      refine nk_ifnonnullR (tgt := 34) dX6_readSet_25 (by decide) ?_
      refine nk_iconst (v := 1) dX6_readSet_34 (by decide) ?_
      refine nk_istoreT dX6_readSet_35 (by decide) ?_
      refine nk_iconst (v := 0) dX6_readSet_37 (by decide) ?_
      refine nk_istoreT dX6_readSet_38 (by decide) ?_
      refine nk_J.mono (l_rs (qs := va_up qs n q1) (ws := va_up ws n w1) hl (by omega) hb2 hb10 hy0 (l + 1) a 0 _ _ _ hp1 ⟨t, w, hq3⟩ hlt (by omega) (by omega)) (fun r H' hr => ?_) |>.to (by simp only [va_up, if_pos]; rfl) rfl rfl
      obtain ⟨rfl, f', h1, h2⟩ := hr
      exact ⟨rfl, n + 1, _, _, f', by omega, h1, fun z => ⟨rfl, h2 z⟩⟩

/-! the class: a shelf read from the tape -/
theorem prs.keep {H0 H : nk_AH} {T : Nat → Int32} {q y l k a s sa n b : Nat} {qs ws : Nat → Nat} {f : Nat → Int32} (h : prs H0 H T q y l k a s sa n b qs ws f) : ∀ x e, x ≠ q → H0 x = some e → H x = some e := fun x e hx he => h.1.1 x e (by unfold nk_d; rw [if_neg hx]; exact he)
set_option maxRecDepth 20000 in
theorem l_X6_readShelf {G : nk_EG} {H0 : nk_AH} {T : Nat → Int32} {q y l s sa b : Nat} {v : Int32} {R : Nat × Nat × (Nat → Int32)} (hl : l ≤ 110) (hb2 : 2 ≤ b) (hb10 : b ≤ 10) (hy0 : ∃ c, nk_d H0 q y = some c) : ∀ (g n a i k : Nat) (f : Nat → Int32) (qs ws : Nat → Nat) (H : nk_AH) (hp : prs H0 H T q y l k a s sa n b qs ws f) (hk3 : k ≤ 3) (hn4 : n ≤ 4) (h1 : k = 0 → tp_sets T l (2 ^ b - 1) g n a f = R ∧ pinv f n b ∧ f 0 = nI n ∧ i + 1 ≤ n ∧ l < a + g) (h2 : ¬ k = 0 → R.1 = k ∧ R.2.1 = a) (hi : i ≤ 110), nk_J G mX6_readShelf 6 (fun r H' => ((R).1 = 0 → ∃ s sa m b qs ws, r = some (.ref s) ∧ prs H0 H' T q y l 0 (R).2.1 s sa m b qs ws (R).2.2 ∧ pinv (R).2.2 m b ∧ (R).2.2 0 = nI m ∧ 1 ≤ m ∧ m ≤ 4 ∧ 2 ≤ b ∧ b ≤ 10) ∧ (¬ (R).1 = 0 → r = some .null ∧ (∀ x e, x ≠ q → H0 x = some e → H' x = some e) ∧ cTp H' T q y l (R).1 (R).2.1)) (2 * (5 - n)) (38 * (5 - n)) 59 [some (.ref q), some (.int v), some (.ref s), some (.int (nI i))] [] H := by
  intro g
  induction g with
  | zero =>
    intro n a i k f qs ws H hp hk3 hn4 h1 h2 hi
    obtain ⟨⟨c, hq, bh, t, w, rfl, hx⟩, -⟩ := id hp.2
    by_cases hk : k = 0
    · have := hx hk; have := h1 hk; omega
    · have hk0 : ¬ nI k = 0 := fun z => hk ((nk_k0 hk3).mp z)
      obtain ⟨e1, e2⟩ := h2 hk
      refine nk_iload_n (i := 3) dX6_readShelf_59 rfl rfl ?_
      refine nk_bipush (v := 110) dX6_readShelf_60 (by decide) ?_
      refine nk_icmpge (tgt := 93) dX6_readShelf_62 (by decide) (fun h62 => ?_) (fun h62 => ?_)
      · skip
        refine nk_aload_n (i := 0) dX6_readShelf_93 rfl rfl ?_
        refine nk_getf fX6_31 dX6_readShelf_94 hq rfl ?_
        refine nk_ifne (tgt := 104) dX6_readShelf_97 (by decide) (fun _ => ?_) (fun h97 => by first | exact absurd (hk0) h97 | exact absurd h97 (hk0))
        refine nk_null dX6_readShelf_104 ?_
        refine nk_areturnN dX6_readShelf_105 rfl ?_
        exact ⟨fun z => absurd (e1.symm.trans z) hk, fun _ => ⟨rfl, hp.keep, by rw [e1, e2]; exact hp.2⟩⟩
      · skip
        refine nk_aload_n (i := 0) dX6_readShelf_65 rfl rfl ?_
        refine nk_getf fX6_31 dX6_readShelf_66 hq rfl ?_
        refine nk_ifne (tgt := 93) dX6_readShelf_69 (by decide) (fun _ => ?_) (fun h69 => by first | exact absurd (hk0) h69 | exact absurd h69 (hk0))
        refine nk_aload_n (i := 0) dX6_readShelf_93 rfl rfl ?_
        refine nk_getf fX6_31 dX6_readShelf_94 hq rfl ?_
        refine nk_ifne (tgt := 104) dX6_readShelf_97 (by decide) (fun _ => ?_) (fun h97 => by first | exact absurd (hk0) h97 | exact absurd h97 (hk0))
        refine nk_null dX6_readShelf_104 ?_
        refine nk_areturnN dX6_readShelf_105 rfl ?_
        exact ⟨fun z => absurd (e1.symm.trans z) hk, fun _ => ⟨rfl, hp.keep, by rw [e1, e2]; exact hp.2⟩⟩
  | succ g ih =>
    intro n a i k f qs ws H hp hk3 hn4 h1 h2 hi
    obtain ⟨⟨c, hq, bh, t, w, rfl, hx⟩, -⟩ := id hp.2
    by_cases hk : k = 0
    · subst hk
      obtain ⟨hal, hx⟩ := hx rfl
      obtain ⟨e1, e2, e3, e4, e5⟩ := h1 rfl
      have h110 : ¬ (110 : Int32) ≤ nI i := fun z => by have := nk_leI (a := 110) z (by omega) (by omega); omega
      by_cases ha : a = l
      · have htk := hx.fin.mpr (by omega)
        rw [tp_sets_end ha] at e1
        subst e1
        refine nk_iload_n (i := 3) dX6_readShelf_59 rfl rfl ?_
        refine nk_bipush (v := 110) dX6_readShelf_60 (by decide) ?_
        refine nk_icmpge (tgt := 93) dX6_readShelf_62 (by decide) (fun h62 => by first | exact absurd h62 (h110) | exact absurd (h110) h62) (fun _ => ?_)
        refine nk_aload_n (i := 0) dX6_readShelf_65 rfl rfl ?_
        refine nk_getf fX6_31 dX6_readShelf_66 hq rfl ?_
        refine nk_ifne (tgt := 93) dX6_readShelf_69 (by decide) (fun h69 => by first | exact absurd h69 ((fun z => z rfl)) | exact absurd ((fun z => z rfl)) h69) (fun _ => ?_)
        refine nk_aload_n (i := 0) dX6_readShelf_72 rfl rfl ?_
        refine nk_getf fX6_25 dX6_readShelf_73 hq rfl ?_
        refine nk_sipush (v := 257) dX6_readShelf_76 (by decide) ?_
        refine nk_icmpeq (tgt := 93) dX6_readShelf_79 (by decide) (fun _ => ?_) (fun h79 => by first | exact absurd (htk) h79 | exact absurd h79 (htk))
        refine nk_aload_n (i := 0) dX6_readShelf_93 rfl rfl ?_
        refine nk_getf fX6_31 dX6_readShelf_94 hq rfl ?_
        refine nk_ifne (tgt := 104) dX6_readShelf_97 (by decide) (fun h97 => by first | exact absurd h97 ((fun z => z rfl)) | exact absurd ((fun z => z rfl)) h97) (fun _ => ?_)
        refine nk_aload_n (i := 2) dX6_readShelf_100 rfl rfl ?_
        refine nk_goto (tgt := 105) dX6_readShelf_101 (by decide) ?_
        refine nk_areturn dX6_readShelf_105 rfl ?_
        exact ⟨fun _ => ⟨s, sa, n, b, qs, ws, rfl, hp, e2, e3, by omega, hn4, hb2, hb10⟩, fun z => absurd rfl z⟩
      · have htk : ¬ t = 257 := fun z => by have := hx.fin.mp z; omega
        refine nk_iload_n (i := 3) dX6_readShelf_59 rfl rfl ?_
        refine nk_bipush (v := 110) dX6_readShelf_60 (by decide) ?_
        refine nk_icmpge (tgt := 93) dX6_readShelf_62 (by decide) (fun h62 => by first | exact absurd h62 (h110) | exact absurd (h110) h62) (fun _ => ?_)
        refine nk_aload_n (i := 0) dX6_readShelf_65 rfl rfl ?_
        refine nk_getf fX6_31 dX6_readShelf_66 hq rfl ?_
        refine nk_ifne (tgt := 93) dX6_readShelf_69 (by decide) (fun h69 => by first | exact absurd h69 ((fun z => z rfl)) | exact absurd ((fun z => z rfl)) h69) (fun _ => ?_)
        refine nk_aload_n (i := 0) dX6_readShelf_72 rfl rfl ?_
        refine nk_getf fX6_25 dX6_readShelf_73 hq rfl ?_
        refine nk_sipush (v := 257) dX6_readShelf_76 (by decide) ?_
        refine nk_icmpeq (tgt := 93) dX6_readShelf_79 (by decide) (fun h79 => by first | exact absurd h79 (htk) | exact absurd (htk) h79) (fun _ => ?_)
        refine nk_aload_n (i := 0) dX6_readShelf_82 rfl rfl ?_
        refine nk_aload_n (i := 2) dX6_readShelf_83 rfl rfl ?_
        refine nk_cV (bc' := 2 * (5 - (n + 1))) (bs' := 38 * (5 - (n + 1))) kX6_49 (s_X6_readSet hl hn4 hb2 hb10 hy0 hp e2.2.2) dX6_readShelf_84 hq rfl rfl (by decide) (Nat.le_of_ble_eq_true rfl) ⟨by omega, by omega⟩ (fun r H2 hr => ?_)
        obtain ⟨rfl, n', qs', ws', f', hn', hp2, hok⟩ := hr
        have hp2 : prs H0 H2 T q y l (rsR T l b n a f).1 (rsR T l b n a f).2.1 s sa n' b qs' ws' f' := hp2
        have hok : (rsR T l b n a f).1 = 0 → n' = n + 1 ∧ f' = (rsR T l b n a f).2.2 := hok
        refine nk_iincT dX6_readShelf_87 rfl (nk_i1 i) (by decide) ?_
        refine nk_goto (tgt := 59) dX6_readShelf_90 (by decide) ?_
        by_cases hr : (rsR T l b n a f).1 = 0
        · obtain ⟨rfl, rfl⟩ := hok hr
          obtain ⟨-, -, -, g1, g2⟩ := rsR_set hr
          have g3 := rsR_ok (g := g) hr
          have hp3 := hp2.cg (f' := upd (rsR T l b n a f).2.2 0 (nI (n + 1))) (fun j hj => by unfold upd; rw [if_neg (by omega)])
          exact ih (n + 1) _ (i + 1) _ _ _ _ _ hp3 (by omega) hn' (fun _ => ⟨g3.symm.trans e1, (rsR_inv hr e2 hn4 hb2 hb10).z, by unfold upd; rw [if_pos rfl], by omega, by omega⟩) (fun z => absurd hr z) (by omega)
        · have g3 := rsR_bad (g := g) (show a < l by omega) hr
          have hk9 : (rsR T l b n a f).1 ≤ 3 := rsR_3
          rw [e1] at g3
          obtain ⟨d1, d2⟩ := g3
          obtain ⟨⟨c, hq, bh, t, w, rfl, hx⟩, -⟩ := id hp2.2
          have hk0 : ¬ nI (rsR T l b n a f).1 = 0 := fun z => hr ((nk_k0 hk9).mp z)
          refine nk_iload_n (i := 3) dX6_readShelf_59 rfl rfl ?_
          refine nk_bipush (v := 110) dX6_readShelf_60 (by decide) ?_
          refine nk_icmpge (tgt := 93) dX6_readShelf_62 (by decide) (fun h62 => ?_) (fun h62 => ?_)
          · skip
            refine nk_aload_n (i := 0) dX6_readShelf_93 rfl rfl ?_
            refine nk_getf fX6_31 dX6_readShelf_94 hq rfl ?_
            refine nk_ifne (tgt := 104) dX6_readShelf_97 (by decide) (fun _ => ?_) (fun h97 => by first | exact absurd (hk0) h97 | exact absurd h97 (hk0))
            refine nk_null dX6_readShelf_104 ?_
            refine nk_areturnN dX6_readShelf_105 rfl ?_
            exact ⟨fun z => absurd (d1.symm.trans z) hr, fun _ => ⟨rfl, hp2.keep, by rw [d1, d2]; exact hp2.2⟩⟩
          · skip
            refine nk_aload_n (i := 0) dX6_readShelf_65 rfl rfl ?_
            refine nk_getf fX6_31 dX6_readShelf_66 hq rfl ?_
            refine nk_ifne (tgt := 93) dX6_readShelf_69 (by decide) (fun _ => ?_) (fun h69 => by first | exact absurd (hk0) h69 | exact absurd h69 (hk0))
            refine nk_aload_n (i := 0) dX6_readShelf_93 rfl rfl ?_
            refine nk_getf fX6_31 dX6_readShelf_94 hq rfl ?_
            refine nk_ifne (tgt := 104) dX6_readShelf_97 (by decide) (fun _ => ?_) (fun h97 => by first | exact absurd (hk0) h97 | exact absurd h97 (hk0))
            refine nk_null dX6_readShelf_104 ?_
            refine nk_areturnN dX6_readShelf_105 rfl ?_
            exact ⟨fun z => absurd (d1.symm.trans z) hr, fun _ => ⟨rfl, hp2.keep, by rw [d1, d2]; exact hp2.2⟩⟩
    · have hk0 : ¬ nI k = 0 := fun z => hk ((nk_k0 hk3).mp z)
      obtain ⟨e1, e2⟩ := h2 hk
      refine nk_iload_n (i := 3) dX6_readShelf_59 rfl rfl ?_
      refine nk_bipush (v := 110) dX6_readShelf_60 (by decide) ?_
      refine nk_icmpge (tgt := 93) dX6_readShelf_62 (by decide) (fun h62 => ?_) (fun h62 => ?_)
      · skip
        refine nk_aload_n (i := 0) dX6_readShelf_93 rfl rfl ?_
        refine nk_getf fX6_31 dX6_readShelf_94 hq rfl ?_
        refine nk_ifne (tgt := 104) dX6_readShelf_97 (by decide) (fun _ => ?_) (fun h97 => by first | exact absurd (hk0) h97 | exact absurd h97 (hk0))
        refine nk_null dX6_readShelf_104 ?_
        refine nk_areturnN dX6_readShelf_105 rfl ?_
        exact ⟨fun z => absurd (e1.symm.trans z) hk, fun _ => ⟨rfl, hp.keep, by rw [e1, e2]; exact hp.2⟩⟩
      · skip
        refine nk_aload_n (i := 0) dX6_readShelf_65 rfl rfl ?_
        refine nk_getf fX6_31 dX6_readShelf_66 hq rfl ?_
        refine nk_ifne (tgt := 93) dX6_readShelf_69 (by decide) (fun _ => ?_) (fun h69 => by first | exact absurd (hk0) h69 | exact absurd h69 (hk0))
        refine nk_aload_n (i := 0) dX6_readShelf_93 rfl rfl ?_
        refine nk_getf fX6_31 dX6_readShelf_94 hq rfl ?_
        refine nk_ifne (tgt := 104) dX6_readShelf_97 (by decide) (fun _ => ?_) (fun h97 => by first | exact absurd (hk0) h97 | exact absurd h97 (hk0))
        refine nk_null dX6_readShelf_104 ?_
        refine nk_areturnN dX6_readShelf_105 rfl ?_
        exact ⟨fun z => absurd (e1.symm.trans z) hk, fun _ => ⟨rfl, hp.keep, by rw [e1, e2]; exact hp.2⟩⟩
set_option maxRecDepth 20000 in
theorem s_X6_readShelf {G : nk_EG} {H0 : nk_AH} {T fy : Nat → Int32} {q y l : Nat} {x1 x2 x3 x4 x5 : Int32} (hq : H0 q = some (tpc y l x1 x2 x3 x4 x5)) (hy : H0 y = some (inc 110 fy)) (hft : ∀ j, j < 110 → fy j = T j) (hl : l ≤ 110) : nk_S G mX6_readShelf 6 14 236 [.ref q] H0 (fun r H' => ((tp_all T l).1 = 0 → ∃ s sa m b qs ws, r = some (.ref s) ∧ prs H0 H' T q y l 0 (tp_all T l).2.1 s sa m b qs ws (tp_all T l).2.2 ∧ pinv (tp_all T l).2.2 m b ∧ (tp_all T l).2.2 0 = nI m ∧ 1 ≤ m ∧ m ≤ 4 ∧ 2 ≤ b ∧ b ≤ 10) ∧ (¬ (tp_all T l).1 = 0 → r = some .null ∧ (∀ x e, x ≠ q → H0 x = some e → H' x = some e) ∧ cTp H' T q y l (tp_all T l).1 (tp_all T l).2.1)) := by
  refine nk_S.of (by decide +kernel) (Nat.le_of_ble_eq_true rfl) rfl ?_
  have hqy : q ≠ y := nk_cdif hq hy (by intro z; cases z)
  have hy2 : ∀ {e}, nk_u H0 q e y = some (inc 110 fy) := fun {e} => by rw [nk_u_ne hqy.symm]; exact hy
  have hyd : ∃ c, nk_d H0 q y = some c := ⟨_, by unfold nk_d; rw [if_neg hqy.symm]; exact hy⟩
  refine nk_aload_n (i := 0) dX6_readShelf_0 rfl rfl ?_
  refine nk_iconst (v := 0) dX6_readShelf_1 (by decide) ?_
  refine nk_putf pX6_31 dX6_readShelf_2 hq rfl rfl (Nat.le_of_ble_eq_true rfl) rfl ?_
  refine nk_aload_n (i := 0) dX6_readShelf_5 rfl rfl ?_
  refine nk_iconst (v := 0) dX6_readShelf_6 (by decide) ?_
  refine nk_putf pX6_22 dX6_readShelf_7 (nk_u_self _ _ _) rfl rfl (Nat.le_of_ble_eq_true rfl) rfl ?_
  refine nk_J.to ?_ rfl rfl (nk_u_u _ _ _ _)
  refine nk_aload_n (i := 0) dX6_readShelf_10 rfl rfl ?_
  refine nk_cV (bc' := 14) (bs' := 236) kX6_34 (s_X6_adv (T := T) (a := 0) (nk_u_self _ _ _) hy2 hft hl (by omega)) dX6_readShelf_11 (nk_u_self _ _ _) rfl rfl (by decide) (Nat.le_of_ble_eq_true rfl) ⟨Nat.le_refl _, Nat.le_refl _⟩ (fun r H2 hr => ?_)
  obtain ⟨rfl, bh, t, w, rfl, hx⟩ := hr
  refine nk_J.to ?_ rfl rfl (nk_u_u _ _ _ _)
  have hT0 : cTp (nk_u H0 q (tpc y l (nI 0) bh t w 0)) T q y l 0 0 := ⟨⟨_, nk_u_self _ _ _, _, _, _, rfl, fun _ => ⟨by omega, hx⟩⟩, _, hy2, hft⟩
  refine nk_aload_n (i := 0) dX6_readShelf_14 rfl rfl ?_
  refine nk_bipush (v := 117) dX6_readShelf_15 (by decide) ?_
  refine nk_cV (bc' := 14) (bs' := 236) kX6_37 (s_X6_expect hT0 hl (by omega) (Or.inl rfl)) dX6_readShelf_17 (nk_u_self _ _ _) rfl rfl (by decide) (Nat.le_of_ble_eq_true rfl) ⟨Nat.le_refl _, Nat.le_refl _⟩ (fun r H2 hr => ?_)
  obtain ⟨rfl, e1, rfl, he1⟩ := hr
  have hT1 := hT0.u he1
  refine nk_J.to ?_ rfl rfl (nk_u_u _ _ _ _)
  rw [nk_u_u] at hT1
  simp only [if_pos, true_and] at he1 hT1
  generalize hk1 : (if tp_is T l 0 117 then 0 else 1) = k1 at he1 hT1
  generalize ha1 : (if tp_is T l 0 117 then 0 + 1 else 0) = a1 at he1 hT1
  have hk13 : k1 ≤ 3 := by rw [← hk1]; split <;> omega
  obtain ⟨bh1, t1, w1, rfl, -⟩ := he1
  refine nk_aload_n (i := 0) dX6_readShelf_20 rfl rfl ?_
  refine nk_iconst (v := 2) dX6_readShelf_21 (by decide) ?_
  refine nk_bipush (v := 10) dX6_readShelf_22 (by decide) ?_
  refine nk_cV (bc' := 14) (bs' := 236) kX6_41 (s_X6_readNumber hT1 hl hk13 (lo := 2) (hi := 10) (by omega) (by omega)) dX6_readShelf_24 (nk_u_self _ _ _) rfl rfl (by decide) (Nat.le_of_ble_eq_true rfl) ⟨Nat.le_refl _, Nat.le_refl _⟩ (fun r H2 hr => ?_)
  obtain ⟨v, e2, rfl, rfl, he2, hv⟩ := hr
  have hT2 := hT1.u he2
  refine nk_J.to ?_ rfl rfl (nk_u_u _ _ _ _)
  rw [nk_u_u] at hT2
  generalize hk2 : (if k1 = 0 then tp_f T l a1 2 10 else k1) = k2 at he2 hT2
  generalize ha2 : (if k1 = 0 ∧ tp_f T l a1 2 10 = 0 then tp_end T l a1 else a1) = a2 at he2 hT2
  have hk23 : k2 ≤ 3 := by
    have := tp_f_le (T := T) (l := l) (a := a1) (lo := 2) (hi := 10)
    rw [← hk2]; split <;> omega
  obtain ⟨bh2, t2, w2, rfl, -⟩ := he2
  refine nk_istore_nT (i := 1) dX6_readShelf_27 rfl (by decide) ?_
  refine nk_aload_n (i := 0) dX6_readShelf_28 rfl rfl ?_
  refine nk_bipush (v := 59) dX6_readShelf_29 (by decide) ?_
  refine nk_cV (bc' := 14) (bs' := 236) kX6_37 (s_X6_expect hT2 hl hk23 (Or.inr (Or.inr rfl))) dX6_readShelf_31 (nk_u_self _ _ _) rfl rfl (by decide) (Nat.le_of_ble_eq_true rfl) ⟨Nat.le_refl _, Nat.le_refl _⟩ (fun r H2 hr => ?_)
  obtain ⟨rfl, e3, rfl, he3⟩ := hr
  have hT3 := hT2.u he3
  refine nk_J.to ?_ rfl rfl (nk_u_u _ _ _ _)
  rw [nk_u_u] at hT3
  generalize hk3 : (if k2 = 0 then (if tp_is T l a2 59 then 0 else 1) else k2) = k3 at he3 hT3
  generalize ha3 : (if k2 = 0 ∧ tp_is T l a2 59 then a2 + 1 else a2) = a3 at he3 hT3
  obtain ⟨hlw, hall⟩ := tp_lw_is hk1.symm ha1.symm hk2.symm ha2.symm hk3.symm ha3.symm
  have hk33 : k3 ≤ 3 := by have := tp_lw_3 (T := T) (l := l); rw [hlw] at this; exact this
  obtain ⟨bh3, t3, w3, rfl, hx3⟩ := he3
  refine nk_aload_n (i := 0) dX6_readShelf_34 rfl rfl ?_
  refine nk_getf fX6_31 dX6_readShelf_35 (nk_u_self _ _ _) rfl ?_
  refine nk_ifeq (tgt := 43) dX6_readShelf_38 (by decide) (fun h38 => ?_) (fun h38 => ?_)
  · skip
    rw [nk_k0 hk33] at h38
    obtain ⟨z1, z2, z3⟩ := hall h38
    have hv2 := hv z1 z3
    have hallok := tp_all_ok (T := T) (l := l) (by rw [hlw]; exact h38)
    rw [hlw] at hallok
    obtain ⟨hall2, hal3, hn2, hn10⟩ := hallok
    rw [z2] at hv2
    subst hv2
    subst h38
    obtain ⟨-, hx4⟩ := hx3 rfl
    generalize hb : tp_num T l 1 = b at *
    refine nk_new (bc' := 13) (bs' := 232) nX6_45 dX6_readShelf_43 ⟨Nat.le_of_ble_eq_true rfl, Nat.le_of_ble_eq_true rfl⟩ (fun s hs => ?_)
    refine nk_dup dX6_readShelf_46 rfl ?_
    refine nk_iload_n (i := 1) dX6_readShelf_47 rfl rfl ?_
    refine nk_cI (bc' := 12) (bs' := 228) kX6_47 (s_X5_init (b := b) (nk_u_self _ _ _) hn2 hn10) dX6_readShelf_48 rfl rfl (by decide) (Nat.le_of_ble_eq_true rfl) ⟨Nat.le_of_ble_eq_true rfl, Nat.le_of_ble_eq_true rfl⟩ (fun r H2 hr => ?_)
    obtain ⟨rfl, sa, hsa, rfl⟩ := hr
    have d1 : s ≠ sa := nk_ne (nk_u_self _ _ _) hsa
    rw [nk_u_ne d1.symm] at hsa
    refine nk_J.to ?_ rfl rfl (nk_u_push d1)
    have hqs : q ≠ s := nk_ne (nk_u_self _ _ _) hs
    have hqa : q ≠ sa := nk_ne (nk_u_self _ _ _) hsa
    have hys : y ≠ s := nk_ne hy2 hs
    have hya : y ≠ sa := nk_ne hy2 hsa
    rw [nk_u_ne hqs.symm] at hs
    rw [nk_u_ne hqa.symm] at hsa
    have nd : ∀ {x : Nat}, H0 x = none → nk_d H0 q x = none := fun {x} z => by unfold nk_d; split <;> first | rfl | exact z
    have hq5 : nk_u (nk_u (nk_u H0 q (tpc y l (nI a3) bh3 t3 w3 (nI 0))) sa (stc 0 id)) s (shc b sa 0) q = some (tpc y l (nI a3) bh3 t3 w3 (nI 0)) := by rw [nk_u_ne hqs, nk_u_ne hqa, nk_u_self]
    have hp : prs H0 (nk_u (nk_u (nk_u H0 q (tpc y l (nI a3) bh3 t3 w3 (nI 0))) sa (stc 0 id)) s (shc b sa 0)) T q y l 0 a3 s sa 0 b id id (upd (fun _ => 0) 1 (nI b)) := by
      refine ⟨⟨nk_le_new hs hsa, ⟨nk_u_self _ _ _, by rw [nk_u_ne d1.symm, nk_u_self], fun j hj => by omega⟩, nd hs, nd hsa, fun j hj => by omega, fun j j' hj => by omega⟩, ⟨_, hq5, _, _, _, rfl, fun _ => ⟨hal3, hx4⟩⟩, fy, ?_, hft⟩
      rw [nk_u_ne hys, nk_u_ne hya, nk_u_ne hqy.symm]; exact hy
    refine nk_astore_nT (i := 2) dX6_readShelf_51 rfl (by decide) ?_
    refine nk_aload_n (i := 0) dX6_readShelf_52 rfl rfl ?_
    refine nk_aload_n (i := 2) dX6_readShelf_53 rfl rfl ?_
    refine nk_cV (bc' := 10) (bs' := 190) kX6_49 (s_X6_readSet hl (by omega) hn2 hn10 hyd hp pinv.start.2.2) dX6_readShelf_54 hq5 rfl rfl (by decide) (Nat.le_of_ble_eq_true rfl) ⟨Nat.le_of_ble_eq_true rfl, Nat.le_of_ble_eq_true rfl⟩ (fun r H2 hr => ?_)
    obtain ⟨rfl, n', qs', ws', f', hn', hp2, hok⟩ := hr
    have hp2 : prs H0 H2 T q y l (rsR T l b 0 a3 (upd (fun _ => 0) 1 (nI b))).1 (rsR T l b 0 a3 (upd (fun _ => 0) 1 (nI b))).2.1 s sa n' b qs' ws' f' := hp2
    have hok : (rsR T l b 0 a3 (upd (fun _ => 0) 1 (nI b))).1 = 0 → n' = 0 + 1 ∧ f' = (rsR T l b 0 a3 (upd (fun _ => 0) 1 (nI b))).2.2 := hok
    refine nk_iconst (v := 0) dX6_readShelf_57 (by decide) ?_
    refine nk_istore_nT (i := 3) dX6_readShelf_58 rfl (by decide) ?_
    by_cases hr : (rsR T l b 0 a3 (upd (fun _ => 0) 1 (nI b))).1 = 0
    · obtain ⟨rfl, rfl⟩ := hok hr
      obtain ⟨g0, -, -, g1, g2⟩ := rsR_set hr
      rw [if_neg (fun z => z.elim (fun y => by have := g0.1; omega) (fun y => g0.2 y)), rsR_ok (g := l) hr] at hall2
      have hp3 := hp2.cg (f' := upd (rsR T l b 0 a3 (upd (fun _ => 0) 1 (nI b))).2.2 0 (nI (0 + 1))) (fun j hj => by unfold upd; rw [if_neg (by omega)])
      exact nk_J.less (by omega) (by omega) (l_X6_readShelf hl hn2 hn10 hyd l 1 _ 0 _ _ _ _ _ hp3 (by omega) (by omega) (fun _ => ⟨hall2.symm, (rsR_inv hr pinv.start (by omega) hn2 hn10).z, by unfold upd; rw [if_pos rfl], by omega, by omega⟩) (fun z => absurd hr z) (by omega))
    · have hR : (tp_all T l).1 = (rsR T l b 0 a3 (upd (fun _ => 0) 1 (nI b))).1 ∧ (tp_all T l).2.1 = (rsR T l b 0 a3 (upd (fun _ => 0) 1 (nI b))).2.1 := by
        rw [hall2]
        by_cases z : a3 = l ∨ tp_kind (T a3) = 0
        · rw [if_pos z]
          have e : rsR T l b 0 a3 (upd (fun _ => 0) 1 (nI b)) = (1, a3, upd (fun _ => 0) 1 (nI b)) := by
            unfold rsR
            rw [if_neg (fun y => z.elim (fun x => by have := y.1; omega) (fun x => y.2 x))]
          rw [e]; exact ⟨rfl, rfl⟩
        · rw [if_neg z]
          exact rsR_bad (by have := fun y => z (Or.inl y); omega) hr
      exact nk_J.less (by omega) (by omega) (l_X6_readShelf (R := tp_all T l) hl hn2 hn10 hyd 0 n' _ 0 _ _ _ _ _ hp2 rsR_3 hn' (fun z => absurd z hr) (fun _ => hR) (by omega))
  · skip
    rw [nk_k0 hk33] at h38
    refine nk_null dX6_readShelf_41 ?_
    refine nk_areturnN dX6_readShelf_42 rfl ?_
    have hb := tp_all_bad (T := T) (l := l) (by rw [hlw]; exact h38)
    rw [hlw] at hb
    refine ⟨fun z => absurd z (by rw [hb]; exact h38), fun _ => ⟨rfl, fun x e hxq he => by rw [nk_u_ne hxq]; exact he, by rw [hb]; exact hT3⟩⟩

/-! the class: chases, covers, chances, draws -/
set_option maxRecDepth 20000 in
theorem s_X7_meet {G : nk_EG} {K : nk_AH} {o m b : Nat} {r : Nat → Int32} (hV : cV K o m b r) {k : Int32} : nk_Si G mX7_meet 15 [.ref o, .int k] K (sp_meet m b (nk_mem r 0) k) K := by
  refine nk_S.of (by decide +kernel) (Nat.le_of_ble_eq_true rfl) rfl ?_
  rcases hV with ⟨v1, v2, v3, v4, v5, f1, f2, hn, rfl, rfl⟩ | ⟨v1, v2, v3, v4, v5, f1, f2, q, sa, qs, ws, hV2⟩
  · have hK : ¬ sp_K 0 k := fun z => by have := z.1; have := z.2; rw [nk_tp_0] at this; omega
    refine nk_aload_n (i := 0) dX7_meet_0 rfl rfl ?_
    refine nk_getf fX7_42 dX7_meet_1 hn rfl ?_
    refine nk_ifnullN (tgt := 18) dX7_meet_4 (by decide) ?_
    refine nk_ldc qX7_61 dX7_meet_18 ?_
    refine nk_goto (tgt := 31) dX7_meet_20 (by decide) ?_
    refine nk_ireturn dX7_meet_31 rfl ?_
    exact ⟨by unfold sp_meet; rw [if_neg hK], rfl⟩
  · skip
    have hm4 := hV2.2.2.2.2.2.1
    have hb2 := hV2.2.2.2.2.2.2.1
    have hb10 := hV2.2.2.2.2.2.2.2.1
    have hV7 := hV2.2.2.2.2.2.2.2.2
    have hwm := wm_f b hb10 hb2
    have hk0 := s_X5_isKey (G := G) hV2.2.1 hm4 hb2 hb10 (x := k)
    unfold sp_meet
    by_cases hK : sp_K b k
    · rw [if_pos hK] at hk0 ⊢
      obtain ⟨hkt, hke⟩ := sp_n_K hK
      generalize hk1 : sp_n k = k1 at *
      subst hke
      refine nk_aload_n (i := 0) dX7_meet_0 rfl rfl ?_
      refine nk_getf fX7_42 dX7_meet_1 hV2.1 rfl ?_
      refine nk_ifnullR dX7_meet_4 ?_
      refine nk_aload_n (i := 0) dX7_meet_7 rfl rfl ?_
      refine nk_getf fX7_42 dX7_meet_8 hV2.1 rfl ?_
      refine nk_iload_n (i := 1) dX7_meet_11 rfl rfl ?_
      refine nk_cVi kX7_248 (hk0) dX7_meet_12 hV2.2.1.1 rfl rfl (by decide) (Nat.le_of_ble_eq_true rfl) ?_
      refine nk_ifne (tgt := 23) dX7_meet_15 (by decide) (fun _ => ?_) (fun h15 => by first | exact absurd (by decide) h15 | exact absurd h15 (by decide))
      refine nk_aload_n (i := 0) dX7_meet_23 rfl rfl ?_
      refine nk_getf fX7_42 dX7_meet_24 hV2.1 rfl ?_
      refine nk_iload_n (i := 1) dX7_meet_27 rfl rfl ?_
      refine nk_cVi kX7_249 (s_X5_commonFrom hV2.2.1 hm4 hb2 hb10 (fun s hs => (hV7 s hs).2) hV2.2.2.2.2.1 hkt) dX7_meet_28 hV2.2.1.1 rfl rfl (by decide) (Nat.le_of_ble_eq_true rfl) ?_
      refine nk_ireturn dX7_meet_31 rfl ?_
      exact ⟨rfl, rfl⟩
    · rw [if_neg hK] at hk0 ⊢
      refine nk_aload_n (i := 0) dX7_meet_0 rfl rfl ?_
      refine nk_getf fX7_42 dX7_meet_1 hV2.1 rfl ?_
      refine nk_ifnullR dX7_meet_4 ?_
      refine nk_aload_n (i := 0) dX7_meet_7 rfl rfl ?_
      refine nk_getf fX7_42 dX7_meet_8 hV2.1 rfl ?_
      refine nk_iload_n (i := 1) dX7_meet_11 rfl rfl ?_
      refine nk_cVi kX7_248 (hk0) dX7_meet_12 hV2.2.1.1 rfl rfl (by decide) (Nat.le_of_ble_eq_true rfl) ?_
      refine nk_ifne (tgt := 23) dX7_meet_15 (by decide) (fun h15 => by first | exact absurd h15 ((fun z => z rfl)) | exact absurd ((fun z => z rfl)) h15) (fun _ => ?_)
      refine nk_ldc qX7_61 dX7_meet_18 ?_
      refine nk_goto (tgt := 31) dX7_meet_20 (by decide) ?_
      refine nk_ireturn dX7_meet_31 rfl ?_
      exact ⟨rfl, rfl⟩
set_option maxRecDepth 20000 in
theorem s_X7_cover {G : nk_EG} {K : nk_AH} {o m b : Nat} {r : Nat → Int32} (hV : cV K o m b r) {a c x : Int32} : nk_Si G mX7_cover 15 [.ref o, .int a, .int c, .int x] K (sp_cover m b (nk_mem r 0) a c x) K := by
  refine nk_S.of (by decide +kernel) (Nat.le_of_ble_eq_true rfl) rfl ?_
  rcases hV with ⟨v1, v2, v3, v4, v5, f1, f2, hn, rfl, rfl⟩ | ⟨v1, v2, v3, v4, v5, f1, f2, q, sa, qs, ws, hV2⟩
  · have hK : ¬ sp_K 0 a := fun z => by have := z.1; have := z.2; rw [nk_tp_0] at this; omega
    refine nk_aload_n (i := 0) dX7_cover_0 rfl rfl ?_
    refine nk_getf fX7_42 dX7_cover_1 hn rfl ?_
    refine nk_ifnullN (tgt := 43) dX7_cover_4 (by decide) ?_
    refine nk_ldc qX7_61 dX7_cover_43 ?_
    refine nk_ireturn dX7_cover_45 rfl ?_
    exact ⟨by unfold sp_cover; rw [if_neg hK], rfl⟩
  · skip
    have hm4 := hV2.2.2.2.2.2.1
    have hb2 := hV2.2.2.2.2.2.2.1
    have hb10 := hV2.2.2.2.2.2.2.2.1
    have hV7 := hV2.2.2.2.2.2.2.2.2
    have hwm := wm_f b hb10 hb2
    unfold sp_cover
    refine nk_aload_n (i := 0) dX7_cover_0 rfl rfl ?_
    refine nk_getf fX7_42 dX7_cover_1 hV2.1 rfl ?_
    refine nk_ifnullR dX7_cover_4 ?_
    refine nk_aload_n (i := 0) dX7_cover_7 rfl rfl ?_
    refine nk_getf fX7_42 dX7_cover_8 hV2.1 rfl ?_
    refine nk_iload_n (i := 1) dX7_cover_11 rfl rfl ?_
    refine nk_cVi kX7_248 (s_X5_isKey hV2.2.1 hm4 hb2 hb10) dX7_cover_12 hV2.2.1.1 rfl rfl (by decide) (Nat.le_of_ble_eq_true rfl) ?_
    refine nk_ifeq (tgt := 43) dX7_cover_15 (by decide) (fun h15 => ?_) (fun h15 => ?_)
    · skip
      simp only [nk_b0, Classical.not_not] at h15
      first | (have hA : sp_K b a := h15) | (have hA : ¬ sp_K b a := h15)
      refine nk_ldc qX7_61 dX7_cover_43 ?_
      refine nk_ireturn dX7_cover_45 rfl ?_
      first
      | exact ⟨by rw [if_neg hA], rfl⟩
      | exact ⟨by rw [if_pos hA, if_neg hC], rfl⟩
      | exact ⟨by rw [if_pos hA, if_pos hC, if_neg hAC], rfl⟩
      | exact ⟨by rw [if_pos hA, if_pos hC, if_pos hAC, if_neg hR], rfl⟩
    · skip
      simp only [nk_b0, Classical.not_not] at h15
      first | (have hA : sp_K b a := h15) | (have hA : ¬ sp_K b a := h15)
      refine nk_aload_n (i := 0) dX7_cover_18 rfl rfl ?_
      refine nk_getf fX7_42 dX7_cover_19 hV2.1 rfl ?_
      refine nk_iload_n (i := 2) dX7_cover_22 rfl rfl ?_
      refine nk_cVi kX7_248 (s_X5_isKey hV2.2.1 hm4 hb2 hb10) dX7_cover_23 hV2.2.1.1 rfl rfl (by decide) (Nat.le_of_ble_eq_true rfl) ?_
      refine nk_ifeq (tgt := 43) dX7_cover_26 (by decide) (fun h26 => ?_) (fun h26 => ?_)
      · skip
        simp only [nk_b0, Classical.not_not] at h26
        first | (have hC : sp_K b c := h26) | (have hC : ¬ sp_K b c := h26)
        refine nk_ldc qX7_61 dX7_cover_43 ?_
        refine nk_ireturn dX7_cover_45 rfl ?_
        first
        | exact ⟨by rw [if_neg hA], rfl⟩
        | exact ⟨by rw [if_pos hA, if_neg hC], rfl⟩
        | exact ⟨by rw [if_pos hA, if_pos hC, if_neg hAC], rfl⟩
        | exact ⟨by rw [if_pos hA, if_pos hC, if_pos hAC, if_neg hR], rfl⟩
      · skip
        simp only [nk_b0, Classical.not_not] at h26
        first | (have hC : sp_K b c := h26) | (have hC : ¬ sp_K b c := h26)
        refine nk_iload_n (i := 1) dX7_cover_29 rfl rfl ?_
        refine nk_iload_n (i := 2) dX7_cover_30 rfl rfl ?_
        refine nk_icmpgt (tgt := 43) dX7_cover_31 (by decide) (fun h31 => ?_) (fun h31 => ?_)
        · skip
          first | (have hAC : ¬ a ≤ c := Int32.not_le.mpr h31) | (have hAC : a ≤ c := Int32.not_lt.mp h31)
          refine nk_ldc qX7_61 dX7_cover_43 ?_
          refine nk_ireturn dX7_cover_45 rfl ?_
          first
          | exact ⟨by rw [if_neg hA], rfl⟩
          | exact ⟨by rw [if_pos hA, if_neg hC], rfl⟩
          | exact ⟨by rw [if_pos hA, if_pos hC, if_neg hAC], rfl⟩
          | exact ⟨by rw [if_pos hA, if_pos hC, if_pos hAC, if_neg hR], rfl⟩
        · skip
          first | (have hAC : ¬ a ≤ c := Int32.not_le.mpr h31) | (have hAC : a ≤ c := Int32.not_lt.mp h31)
          refine nk_iload_n (i := 3) dX7_cover_34 rfl rfl ?_
          refine nk_iconst (v := 0) dX7_cover_35 (by decide) ?_
          refine nk_iconst (v := 1) dX7_cover_36 (by decide) ?_
          refine nk_cSi kX7_57 (s_X7_within) dX7_cover_37 rfl rfl (by decide) (Nat.le_of_ble_eq_true rfl) ?_
          refine nk_ifne (tgt := 46) dX7_cover_40 (by decide) (fun h40 => ?_) (fun h40 => ?_)
          · skip
            simp only [ne_eq, nk_b0, Classical.not_not] at h40
            first | (have hR : sp_R x 0 1 := h40) | (have hR : ¬ sp_R x 0 1 := h40)
            rw [if_pos hA, if_pos hC, if_pos hAC, if_pos hR]
            obtain ⟨ha1, hae⟩ := sp_n_K hA
            obtain ⟨hc1, hce⟩ := sp_n_K hC
            generalize hq1 : sp_n a = a1 at *
            generalize hq2 : sp_n c = c1 at *
            subst hae
            subst hce
            have hle := nk_leI hAC (by omega) (by omega)
            have hp := nk_pw4 m hm4
            have hlt : ∀ q, (sp_cv (fun x => sp_cov (nk_mem r 0) m (nI x) a1 (c1 + 1 - a1)) (2 ^ m - 1)) = some q → 1 ≤ q ∧ q ≤ 2 ^ m - 1 := fun q => sp_cv_lt
            have hn0 := fo_n hlt (by omega)
            have hco := s_X5_fewestOver (G := G) hV2.2.1 hm4 hb2 hb10 hle hc1
            change nk_Si G mX5_fewestOver 4 [.ref q, .int (nI a1), .int (nI c1)] K (fo (sp_cv (fun x => sp_cov (nk_mem r 0) m (nI x) a1 (c1 + 1 - a1)) (2 ^ m - 1))) K at hco
            generalize (sp_cv (fun x => sp_cov (nk_mem r 0) m (nI x) a1 (c1 + 1 - a1)) (2 ^ m - 1)) = C at *
            refine nk_aload_n (i := 0) dX7_cover_46 rfl rfl ?_
            refine nk_getf fX7_42 dX7_cover_47 hV2.1 rfl ?_
            refine nk_iload_n (i := 1) dX7_cover_50 rfl rfl ?_
            refine nk_iload_n (i := 2) dX7_cover_51 rfl rfl ?_
            refine nk_cVi kX7_252 (hco) dX7_cover_52 hV2.2.1.1 rfl rfl (by decide) (Nat.le_of_ble_eq_true rfl) ?_
            refine nk_istoreT dX7_cover_55 (by decide) ?_
            refine nk_iload dX7_cover_57 rfl ?_
            refine nk_ifne (tgt := 65) dX7_cover_59 (by decide) (fun h59 => ?_) (fun h59 => ?_)
            · skip
              try rw [hn0] at h59
              refine nk_iload_n (i := 3) dX7_cover_65 rfl rfl ?_
              refine nk_ifne (tgt := 77) dX7_cover_66 (by decide) (fun h66 => ?_) (fun h66 => ?_)
              · skip
                refine nk_iload dX7_cover_77 rfl ?_
                refine nk_ireturn dX7_cover_79 rfl ?_
                have hC0 : ¬ C = none := fun z => by
                  first
                  | exact h59 z
                  | exact h59 (hn0.mpr z)
                obtain ⟨z, rfl⟩ := Option.ne_none_iff_exists'.mp hC0
                have hx : (x = 0 ∧ ¬ x = 1) ∨ (¬ x = 0 ∧ x = 1) := by
                  by_cases y : x = 0
                  · exact Or.inl ⟨y, by rw [y]; decide⟩
                  · refine Or.inr ⟨y, ?_⟩
                    have a1 := hR.1
                    have a2 := hR.2
                    have a3 : x.toInt ≠ 0 := fun z => y ((fa_eq _ _).mpr z)
                    exact (fa_eq _ _).mpr (show x.toInt = 1 by omega)
                rcases hx with ⟨y1, y2⟩ | ⟨y1, y2⟩
                · first
                  | exact absurd y1 h66
                  | exact ⟨by show _ = some (Value.int (if x = 1 then nI z else nI (fb_ct (bt (nI z)) 32))); rw [if_neg y2]; rfl, rfl⟩
                · first
                  | exact absurd h66 y1
                  | exact ⟨by show _ = some (Value.int (if x = 1 then nI z else nI (fb_ct (bt (nI z)) 32))); rw [if_pos y2]; rfl, rfl⟩
              · skip
                refine nk_iload dX7_cover_69 rfl ?_
                refine nk_cSi kX7_218 (s_J6_bitCount_0f7a4) dX7_cover_71 rfl rfl (by decide) (Nat.le_of_ble_eq_true rfl) ?_
                refine nk_goto (tgt := 79) dX7_cover_74 (by decide) ?_
                refine nk_ireturn dX7_cover_79 rfl ?_
                have hC0 : ¬ C = none := fun z => by
                  first
                  | exact h59 z
                  | exact h59 (hn0.mpr z)
                obtain ⟨z, rfl⟩ := Option.ne_none_iff_exists'.mp hC0
                have hx : (x = 0 ∧ ¬ x = 1) ∨ (¬ x = 0 ∧ x = 1) := by
                  by_cases y : x = 0
                  · exact Or.inl ⟨y, by rw [y]; decide⟩
                  · refine Or.inr ⟨y, ?_⟩
                    have a1 := hR.1
                    have a2 := hR.2
                    have a3 : x.toInt ≠ 0 := fun z => y ((fa_eq _ _).mpr z)
                    exact (fa_eq _ _).mpr (show x.toInt = 1 by omega)
                rcases hx with ⟨y1, y2⟩ | ⟨y1, y2⟩
                · first
                  | exact absurd y1 h66
                  | exact ⟨by show _ = some (Value.int (if x = 1 then nI z else nI (fb_ct (bt (nI z)) 32))); rw [if_neg y2]; rfl, rfl⟩
                · first
                  | exact absurd h66 y1
                  | exact ⟨by show _ = some (Value.int (if x = 1 then nI z else nI (fb_ct (bt (nI z)) 32))); rw [if_pos y2]; rfl, rfl⟩
            · skip
              try rw [hn0] at h59
              refine nk_ldc qX7_247 dX7_cover_62 ?_
              refine nk_ireturn dX7_cover_64 rfl ?_
              have hC0 : C = none := by
                first
                | exact h59
                | exact hn0.mp h59
                | exact Classical.not_not.mp h59
                | exact hn0.mp (Classical.not_not.mp h59)
              rw [hC0]
              exact ⟨rfl, rfl⟩
          · skip
            simp only [ne_eq, nk_b0, Classical.not_not] at h40
            first | (have hR : sp_R x 0 1 := h40) | (have hR : ¬ sp_R x 0 1 := h40)
            refine nk_ldc qX7_61 dX7_cover_43 ?_
            refine nk_ireturn dX7_cover_45 rfl ?_
            first
            | exact ⟨by rw [if_neg hA], rfl⟩
            | exact ⟨by rw [if_pos hA, if_neg hC], rfl⟩
            | exact ⟨by rw [if_pos hA, if_pos hC, if_neg hAC], rfl⟩
            | exact ⟨by rw [if_pos hA, if_pos hC, if_pos hAC, if_neg hR], rfl⟩
set_option maxRecDepth 20000 in
theorem l_X7_chase {G : nk_EG} {K : nk_AH} {o m b q sa j j2 k N : Nat} {r : Nat → Int32} {v1 v2 v3 v4 v5 f1 f2 : Value} {qs ws : Nat → Nat} (hV2 : cVs K o m b r v1 v2 v3 v4 v5 f1 f2 q sa qs ws) (hj : j < m) (hj2 : j2 < m) (hN : N ≤ 60) {T : Option Nat} : ∀ (n : Nat) (i : Nat) (st : Option Nat) (h1 : i ≤ N) (h2 : N < i + n) (h3 : ∀ k, st = some k → k < nk_tp b) (hT : sp_ch (fun j => sp_nx (nk_mem r 0 j) (nk_tp b) (shK r 0 j)) j j2 (N - i) i st = T), nk_J G mX7_chase 15 (nk_ri (nk_rN T) K) 0 0 45 [some (.ref o), some (.int (nI j)), some (.int (nI j2)), some (.int (nI k)), some (.int (nI N)), some (.ref (qs j)), some (.ref (qs j2)), some (.int (nk_rN st)), some (.int (nI i))] [] K := by
  intro n
  induction n with
  | zero => intro i st h1 h2 h3 hT; omega
  | succ n ih =>
    intro i st h1 h2 h3 hT
    have hm4 := hV2.2.2.2.2.2.1
    have hb2 := hV2.2.2.2.2.2.2.1
    have hb10 := hV2.2.2.2.2.2.2.2.1
    have hV7 := hV2.2.2.2.2.2.2.2.2
    have hwm := wm_f b hb10 hb2
    have hX := hV2.2.1.2.2 _ hj
    have hX2 := hV2.2.1.2.2 _ hj2
    have hz := (hV7 _ hj).2
    have hz2 := (hV7 _ hj2).2
    refine nk_iload dX7_chase_45 rfl ?_
    refine nk_iload dX7_chase_47 rfl ?_
    refine nk_icmpge (tgt := 91) dX7_chase_49 (by decide) (fun h49 => ?_) (fun h49 => ?_)
    · skip
      refine nk_iload dX7_chase_91 rfl ?_
      refine nk_ireturn dX7_chase_93 rfl ?_
      first
      | (have hk2 := nk_leI (a := N) h49 (by omega) (by omega)
         rw [show N - i = 0 by omega] at hT
         exact ⟨by rw [← hT]; rfl, rfl⟩)
      | (rw [h56, sp_ch_none] at hT
         exact ⟨by rw [h56, ← hT], rfl⟩)
    · skip
      have hi2 := nk_nleI (a := N) h49 (by omega) (by omega)
      refine nk_iload dX7_chase_52 rfl ?_
      refine nk_ldc qX7_247 dX7_chase_54 ?_
      refine nk_icmpeq (tgt := 91) dX7_chase_56 (by decide) (fun h56 => ?_) (fun h56 => ?_)
      · skip
        rw [nk_rN_none (fun k hk => by have := h3 k hk; omega)] at h56
        refine nk_iload dX7_chase_91 rfl ?_
        refine nk_ireturn dX7_chase_93 rfl ?_
        first
        | (have hk2 := nk_leI (a := N) h49 (by omega) (by omega)
           rw [show N - i = 0 by omega] at hT
           exact ⟨by rw [← hT]; rfl, rfl⟩)
        | (rw [h56, sp_ch_none] at hT
           exact ⟨by rw [h56, ← hT], rfl⟩)
      · skip
        rw [nk_rN_none (fun k hk => by have := h3 k hk; omega)] at h56
        obtain ⟨k2, hq⟩ := Option.ne_none_iff_exists'.mp h56
        subst hq
        have hq2 := h3 k2 rfl
        rw [sp_ch_step hi2] at hT
        refine nk_iload dX7_chase_59 rfl ?_
        refine nk_iconst (v := 2) dX7_chase_61 (by decide) ?_
        refine nk_irem dX7_chase_62 (by decide) ?_
        refine nk_top (y := nI (i % 2)) (pk_rem (d := 2) (by omega) (by omega) (by omega)) ?_
        refine nk_ifne (tgt := 76) dX7_chase_63 (by decide) (fun h63 => ?_) (fun h63 => ?_)
        · skip
          refine nk_aload dX7_chase_76 rfl ?_
          refine nk_iload dX7_chase_78 rfl ?_
          refine nk_top (y := nI k2) (rfl) ?_
          refine nk_cVi kX7_173 (hX2.i (fun H' hk => s_X2_following hk hb2 hb10 hz2 (k := k2) hq2)) dX7_chase_80 hX2.o rfl rfl (by decide) (Nat.le_of_ble_eq_true rfl) ?_
          refine nk_istoreT dX7_chase_83 (by decide) ?_
          refine nk_iincT dX7_chase_85 rfl (nk_i1 i) (by decide) ?_
          refine nk_goto (tgt := 45) dX7_chase_88 (by decide) ?_
          first
          | (have e2 : i % 2 = 0 := nk_eqI (a := i % 2) (b := 0) h63 (by omega) (by omega)
             rw [if_pos e2] at hT
             exact ih (i + 1) _ (by omega) (by omega) (fun k hk => sp_nx_lt hq2 hk) hT)
          | (have e2 : i % 2 = 0 := nk_eqI (a := i % 2) (b := 0) (Classical.not_not.mp h63) (by omega) (by omega)
             rw [if_pos e2] at hT
             exact ih (i + 1) _ (by omega) (by omega) (fun k hk => sp_nx_lt hq2 hk) hT)
          | (have e2 : ¬ i % 2 = 0 := fun e2 => h63 (by rw [e2]; rfl)
             rw [if_neg e2] at hT
             exact ih (i + 1) _ (by omega) (by omega) (fun k hk => sp_nx_lt hq2 hk) hT)
        · skip
          refine nk_aload dX7_chase_66 rfl ?_
          refine nk_iload dX7_chase_68 rfl ?_
          refine nk_top (y := nI k2) (rfl) ?_
          refine nk_cVi kX7_173 (hX.i (fun H' hk => s_X2_following hk hb2 hb10 hz (k := k2) hq2)) dX7_chase_70 hX.o rfl rfl (by decide) (Nat.le_of_ble_eq_true rfl) ?_
          refine nk_goto (tgt := 83) dX7_chase_73 (by decide) ?_
          refine nk_istoreT dX7_chase_83 (by decide) ?_
          refine nk_iincT dX7_chase_85 rfl (nk_i1 i) (by decide) ?_
          refine nk_goto (tgt := 45) dX7_chase_88 (by decide) ?_
          first
          | (have e2 : i % 2 = 0 := nk_eqI (a := i % 2) (b := 0) h63 (by omega) (by omega)
             rw [if_pos e2] at hT
             exact ih (i + 1) _ (by omega) (by omega) (fun k hk => sp_nx_lt hq2 hk) hT)
          | (have e2 : i % 2 = 0 := nk_eqI (a := i % 2) (b := 0) (Classical.not_not.mp h63) (by omega) (by omega)
             rw [if_pos e2] at hT
             exact ih (i + 1) _ (by omega) (by omega) (fun k hk => sp_nx_lt hq2 hk) hT)
          | (have e2 : ¬ i % 2 = 0 := fun e2 => h63 (by rw [e2]; rfl)
             rw [if_neg e2] at hT
             exact ih (i + 1) _ (by omega) (by omega) (fun k hk => sp_nx_lt hq2 hk) hT)
set_option maxRecDepth 20000 in
theorem s_X7_chase {G : nk_EG} {K : nk_AH} {o m b : Nat} {r : Nat → Int32} (hV : cV K o m b r) {s s2 k x : Int32} : nk_Si G mX7_chase 15 [.ref o, .int s, .int s2, .int k, .int x] K (sp_chase m b (nk_mem r 0) (shK r 0) s s2 k x) K := by
  refine nk_S.of (by decide +kernel) (Nat.le_of_ble_eq_true rfl) rfl ?_
  obtain ⟨fs, hfs⟩ := hV.o
  by_cases h1 : sp_S m s
  · by_cases h2 : sp_S m s2
    · by_cases h3 : sp_K b k
      · skip
        obtain ⟨v1, v2, v3, v4, v5, f1, f2, q, sa, qs, ws, hV2⟩ := hV.S h1
        have hm4 := hV2.2.2.2.2.2.1
        have hb2 := hV2.2.2.2.2.2.2.1
        have hb10 := hV2.2.2.2.2.2.2.2.1
        have hV7 := hV2.2.2.2.2.2.2.2.2
        have hwm := wm_f b hb10 hb2
        obtain ⟨hj, hse⟩ := sp_n_S h1
        obtain ⟨hj2, hse2⟩ := sp_n_S h2
        obtain ⟨hkt, hke⟩ := sp_n_K h3
        unfold sp_chase
        rw [if_pos h1, if_pos h2, if_pos h3]
        have ha := s_setWith_s (G := G) hV2 h1 h3
        have hb := s_setAt_s (G := G) hV2 h2
        generalize hje : sp_n s = j at *
        generalize hje2 : sp_n s2 = j2 at *
        generalize hk1 : sp_n k = k1 at *
        subst hse
        subst hse2
        subst hke
        refine nk_aload_n (i := 0) dX7_chase_0 rfl rfl ?_
        refine nk_iload_n (i := 1) dX7_chase_1 rfl rfl ?_
        refine nk_iload_n (i := 3) dX7_chase_2 rfl rfl ?_
        refine nk_cVq kX7_124 ha dX7_chase_3 hfs rfl rfl (by decide) (Nat.le_of_ble_eq_true rfl) ?_
        refine nk_J.to (st' := [.ref (qs j)]) ?_ rfl rfl rfl
        refine nk_astoreT dX7_chase_6 (by decide) ?_
        refine nk_aload_n (i := 0) dX7_chase_8 rfl rfl ?_
        refine nk_iload_n (i := 2) dX7_chase_9 rfl rfl ?_
        refine nk_cVq kX7_140 hb dX7_chase_10 hfs rfl rfl (by decide) (Nat.le_of_ble_eq_true rfl) ?_
        refine nk_J.to (st' := [.ref (qs j2)]) ?_ rfl rfl rfl
        refine nk_astoreT dX7_chase_13 (by decide) ?_
        refine nk_aload dX7_chase_15 rfl ?_
        refine nk_ifnullR dX7_chase_17 ?_
        refine nk_aload dX7_chase_20 rfl ?_
        refine nk_ifnullR dX7_chase_22 ?_
        refine nk_iload dX7_chase_25 rfl ?_
        refine nk_iconst (v := 0) dX7_chase_27 (by decide) ?_
        refine nk_bipush (v := 60) dX7_chase_28 (by decide) ?_
        refine nk_cSi kX7_57 (s_X7_within) dX7_chase_30 rfl rfl (by decide) (Nat.le_of_ble_eq_true rfl) ?_
        refine nk_ifne (tgt := 39) dX7_chase_33 (by decide) (fun h33 => ?_) (fun h33 => ?_)
        · skip
          simp only [ne_eq, nk_b0, Classical.not_not] at h33
          first | (have hR : sp_R x 0 60 := h33) | (have hR : ¬ sp_R x 0 60 := h33)
          rw [if_pos hR]
          obtain ⟨hN, hxe⟩ : sp_n x ≤ 60 ∧ x = nI (sp_n x) := ⟨by have := hR.1; have := hR.2; unfold sp_n Int32.toNatClampNeg; omega, nI_ofI hR.1⟩
          generalize hx1 : sp_n x = N at *
          subst hxe
          refine nk_iload_n (i := 3) dX7_chase_39 rfl rfl ?_
          refine nk_istoreT dX7_chase_40 (by decide) ?_
          refine nk_iconst (v := 0) dX7_chase_42 (by decide) ?_
          refine nk_istoreT dX7_chase_43 (by decide) ?_
          exact l_X7_chase hV2 hj hj2 hN (N + 1) 0 (some k1) (by omega) (by omega) (fun k hk => by cases hk; exact hkt) rfl
        · skip
          simp only [ne_eq, nk_b0, Classical.not_not] at h33
          first | (have hR : sp_R x 0 60 := h33) | (have hR : ¬ sp_R x 0 60 := h33)
          refine nk_ldc qX7_61 dX7_chase_36 ?_
          refine nk_ireturn dX7_chase_38 rfl ?_
          exact ⟨by rw [if_neg hR], rfl⟩
      · have ha := s_setWith_n (G := G) hV (x := s) (y := k) (fun z => h3 z.2)
        obtain ⟨v1, v2, v3, v4, v5, f1, f2, q, sa, qs, ws, hV2⟩ := hV.S h2
        have hb := s_setAt_s (G := G) hV2 h2
        refine nk_aload_n (i := 0) dX7_chase_0 rfl rfl ?_
        refine nk_iload_n (i := 1) dX7_chase_1 rfl rfl ?_
        refine nk_iload_n (i := 3) dX7_chase_2 rfl rfl ?_
        refine nk_cVq kX7_124 ha dX7_chase_3 hfs rfl rfl (by decide) (Nat.le_of_ble_eq_true rfl) ?_
        refine nk_J.to (st' := [.null]) ?_ rfl rfl rfl
        refine nk_astoreNT dX7_chase_6 (by decide) ?_
        refine nk_aload_n (i := 0) dX7_chase_8 rfl rfl ?_
        refine nk_iload_n (i := 2) dX7_chase_9 rfl rfl ?_
        refine nk_cVq kX7_140 hb dX7_chase_10 hfs rfl rfl (by decide) (Nat.le_of_ble_eq_true rfl) ?_
        refine nk_J.to (st' := [.ref (qs (sp_n s2))]) ?_ rfl rfl rfl
        refine nk_astoreT dX7_chase_13 (by decide) ?_
        refine nk_aloadN dX7_chase_15 rfl ?_
        refine nk_ifnullN (tgt := 36) dX7_chase_17 (by decide) ?_
        refine nk_ldc qX7_61 dX7_chase_36 ?_
        refine nk_ireturn dX7_chase_38 rfl ?_
        exact ⟨by unfold sp_chase; rw [if_pos h1, if_pos h2, if_neg h3], rfl⟩
    · have hb := s_setAt_n (G := G) hV h2
      by_cases h3 : sp_K b k
      · obtain ⟨v1, v2, v3, v4, v5, f1, f2, q, sa, qs, ws, hV2⟩ := hV.S h1
        have ha := s_setWith_s (G := G) hV2 h1 h3
        refine nk_aload_n (i := 0) dX7_chase_0 rfl rfl ?_
        refine nk_iload_n (i := 1) dX7_chase_1 rfl rfl ?_
        refine nk_iload_n (i := 3) dX7_chase_2 rfl rfl ?_
        refine nk_cVq kX7_124 ha dX7_chase_3 hfs rfl rfl (by decide) (Nat.le_of_ble_eq_true rfl) ?_
        refine nk_J.to (st' := [.ref (qs (sp_n s))]) ?_ rfl rfl rfl
        refine nk_astoreT dX7_chase_6 (by decide) ?_
        refine nk_aload_n (i := 0) dX7_chase_8 rfl rfl ?_
        refine nk_iload_n (i := 2) dX7_chase_9 rfl rfl ?_
        refine nk_cVq kX7_140 hb dX7_chase_10 hfs rfl rfl (by decide) (Nat.le_of_ble_eq_true rfl) ?_
        refine nk_J.to (st' := [.null]) ?_ rfl rfl rfl
        refine nk_astoreNT dX7_chase_13 (by decide) ?_
        refine nk_aload dX7_chase_15 rfl ?_
        refine nk_ifnullR dX7_chase_17 ?_
        refine nk_aloadN dX7_chase_20 rfl ?_
        refine nk_ifnullN (tgt := 36) dX7_chase_22 (by decide) ?_
        refine nk_ldc qX7_61 dX7_chase_36 ?_
        refine nk_ireturn dX7_chase_38 rfl ?_
        exact ⟨by unfold sp_chase; rw [if_pos h1, if_neg h2], rfl⟩
      · have ha := s_setWith_n (G := G) hV (x := s) (y := k) (fun z => h3 z.2)
        refine nk_aload_n (i := 0) dX7_chase_0 rfl rfl ?_
        refine nk_iload_n (i := 1) dX7_chase_1 rfl rfl ?_
        refine nk_iload_n (i := 3) dX7_chase_2 rfl rfl ?_
        refine nk_cVq kX7_124 ha dX7_chase_3 hfs rfl rfl (by decide) (Nat.le_of_ble_eq_true rfl) ?_
        refine nk_J.to (st' := [.null]) ?_ rfl rfl rfl
        refine nk_astoreNT dX7_chase_6 (by decide) ?_
        refine nk_aload_n (i := 0) dX7_chase_8 rfl rfl ?_
        refine nk_iload_n (i := 2) dX7_chase_9 rfl rfl ?_
        refine nk_cVq kX7_140 hb dX7_chase_10 hfs rfl rfl (by decide) (Nat.le_of_ble_eq_true rfl) ?_
        refine nk_J.to (st' := [.null]) ?_ rfl rfl rfl
        refine nk_astoreNT dX7_chase_13 (by decide) ?_
        refine nk_aloadN dX7_chase_15 rfl ?_
        refine nk_ifnullN (tgt := 36) dX7_chase_17 (by decide) ?_
        refine nk_ldc qX7_61 dX7_chase_36 ?_
        refine nk_ireturn dX7_chase_38 rfl ?_
        exact ⟨by unfold sp_chase; rw [if_pos h1, if_neg h2], rfl⟩
  · have ha := s_setWith_n (G := G) hV (x := s) (y := k) (fun z => h1 z.1)
    by_cases h2 : sp_S m s2
    · obtain ⟨v1, v2, v3, v4, v5, f1, f2, q, sa, qs, ws, hV2⟩ := hV.S h2
      have hb := s_setAt_s (G := G) hV2 h2
      refine nk_aload_n (i := 0) dX7_chase_0 rfl rfl ?_
      refine nk_iload_n (i := 1) dX7_chase_1 rfl rfl ?_
      refine nk_iload_n (i := 3) dX7_chase_2 rfl rfl ?_
      refine nk_cVq kX7_124 ha dX7_chase_3 hfs rfl rfl (by decide) (Nat.le_of_ble_eq_true rfl) ?_
      refine nk_J.to (st' := [.null]) ?_ rfl rfl rfl
      refine nk_astoreNT dX7_chase_6 (by decide) ?_
      refine nk_aload_n (i := 0) dX7_chase_8 rfl rfl ?_
      refine nk_iload_n (i := 2) dX7_chase_9 rfl rfl ?_
      refine nk_cVq kX7_140 hb dX7_chase_10 hfs rfl rfl (by decide) (Nat.le_of_ble_eq_true rfl) ?_
      refine nk_J.to (st' := [.ref (qs (sp_n s2))]) ?_ rfl rfl rfl
      refine nk_astoreT dX7_chase_13 (by decide) ?_
      refine nk_aloadN dX7_chase_15 rfl ?_
      refine nk_ifnullN (tgt := 36) dX7_chase_17 (by decide) ?_
      refine nk_ldc qX7_61 dX7_chase_36 ?_
      refine nk_ireturn dX7_chase_38 rfl ?_
      exact ⟨by unfold sp_chase; rw [if_neg h1], rfl⟩
    · have hb := s_setAt_n (G := G) hV h2
      refine nk_aload_n (i := 0) dX7_chase_0 rfl rfl ?_
      refine nk_iload_n (i := 1) dX7_chase_1 rfl rfl ?_
      refine nk_iload_n (i := 3) dX7_chase_2 rfl rfl ?_
      refine nk_cVq kX7_124 ha dX7_chase_3 hfs rfl rfl (by decide) (Nat.le_of_ble_eq_true rfl) ?_
      refine nk_J.to (st' := [.null]) ?_ rfl rfl rfl
      refine nk_astoreNT dX7_chase_6 (by decide) ?_
      refine nk_aload_n (i := 0) dX7_chase_8 rfl rfl ?_
      refine nk_iload_n (i := 2) dX7_chase_9 rfl rfl ?_
      refine nk_cVq kX7_140 hb dX7_chase_10 hfs rfl rfl (by decide) (Nat.le_of_ble_eq_true rfl) ?_
      refine nk_J.to (st' := [.null]) ?_ rfl rfl rfl
      refine nk_astoreNT dX7_chase_13 (by decide) ?_
      refine nk_aloadN dX7_chase_15 rfl ?_
      refine nk_ifnullN (tgt := 36) dX7_chase_17 (by decide) ?_
      refine nk_ldc qX7_61 dX7_chase_36 ?_
      refine nk_ireturn dX7_chase_38 rfl ?_
      exact ⟨by unfold sp_chase; rw [if_neg h1], rfl⟩

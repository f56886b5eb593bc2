/-! the class: sets by their numbers -/
set_option maxRecDepth 20000 in
theorem s_setAt_q {G : nk_EG} {K : nk_AH} {o m b q sa : Nat} {r : Nat → Int32} {v1 v2 v3 v4 v5 f1 f2 : Value} {qs ws : Nat → Nat} (hV2 : cVs K o m b r v1 v2 v3 v4 v5 f1 f2 q sa qs ws) {x : Int32} : nk_Sq G mX7_setAt 3 [.ref o, .int x] K (if sp_S m x then some (qs (sp_n x)) else none) K := by
  refine nk_S.of (by decide +kernel) (Nat.le_of_ble_eq_true rfl) rfl ?_
  have hm4 := hV2.2.2.2.2.2.1
  have hb2 := hV2.2.2.2.2.2.2.1
  have hb10 := hV2.2.2.2.2.2.2.2.1
  have hV7 := hV2.2.2.2.2.2.2.2.2
  have hwm := wm_f b hb10 hb2
  refine nk_aload_n (i := 0) dX7_setAt_0 rfl rfl ?_
  refine nk_getf fX7_42 dX7_setAt_1 hV2.1 rfl ?_
  refine nk_ifnonnullR (tgt := 11) dX7_setAt_4 (by decide) ?_
  refine nk_aload_n (i := 0) dX7_setAt_11 rfl rfl ?_
  refine nk_getf fX7_42 dX7_setAt_12 hV2.1 rfl ?_
  refine nk_iload_n (i := 1) dX7_setAt_15 rfl rfl ?_
  refine nk_cVq kX7_301 (s_X5_numbered hV2.2.1 hm4 hb2 hb10) dX7_setAt_16 hV2.2.1.1 rfl rfl (by decide) (Nat.le_of_ble_eq_true rfl) ?_
  refine nk_areturnQ dX7_setAt_19 rfl ?_
  exact ⟨rfl, rfl⟩
set_option maxRecDepth 20000 in
theorem s_setWith_q {G : nk_EG} {K : nk_AH} {o m b q sa : Nat} {r : Nat → Int32} {v1 v2 v3 v4 v5 f1 f2 : Value} {qs ws : Nat → Nat} (hV2 : cVs K o m b r v1 v2 v3 v4 v5 f1 f2 q sa qs ws) {x y : Int32} : nk_Sq G mX7_setWith 3 [.ref o, .int x, .int y] K (if sp_K b y then (if sp_S m x then some (qs (sp_n x)) else none) else none) K := by
  refine nk_S.of (by decide +kernel) (Nat.le_of_ble_eq_true rfl) rfl ?_
  have hm4 := hV2.2.2.2.2.2.1
  have hb2 := hV2.2.2.2.2.2.2.1
  have hb10 := hV2.2.2.2.2.2.2.2.1
  have hV7 := hV2.2.2.2.2.2.2.2.2
  have hwm := wm_f b hb10 hb2
  have hk0 := s_X5_isKey (G := G) hV2.2.1 hm4 hb2 hb10 (x := y)
  by_cases hK : sp_K b y
  · rw [if_pos hK] at hk0 ⊢
    refine nk_aload_n (i := 0) dX7_setWith_0 rfl rfl ?_
    refine nk_getf fX7_42 dX7_setWith_1 hV2.1 rfl ?_
    refine nk_ifnullR dX7_setWith_4 ?_
    refine nk_aload_n (i := 0) dX7_setWith_7 rfl rfl ?_
    refine nk_getf fX7_42 dX7_setWith_8 hV2.1 rfl ?_
    refine nk_iload_n (i := 2) dX7_setWith_11 rfl rfl ?_
    refine nk_cVi kX7_248 (hk0) dX7_setWith_12 hV2.2.1.1 rfl rfl (by decide) (Nat.le_of_ble_eq_true rfl) ?_
    refine nk_ifne (tgt := 22) dX7_setWith_15 (by decide) (fun _ => ?_) (fun h15 => by first | exact absurd (by decide) h15 | exact absurd h15 (by decide))
    refine nk_aload_n (i := 0) dX7_setWith_22 rfl rfl ?_
    refine nk_getf fX7_42 dX7_setWith_23 hV2.1 rfl ?_
    refine nk_iload_n (i := 1) dX7_setWith_26 rfl rfl ?_
    refine nk_cVq kX7_301 (s_X5_numbered hV2.2.1 hm4 hb2 hb10) dX7_setWith_27 hV2.2.1.1 rfl rfl (by decide) (Nat.le_of_ble_eq_true rfl) ?_
    refine nk_areturnQ dX7_setWith_30 rfl ?_
    exact ⟨rfl, rfl⟩
  · rw [if_neg hK] at hk0 ⊢
    refine nk_aload_n (i := 0) dX7_setWith_0 rfl rfl ?_
    refine nk_getf fX7_42 dX7_setWith_1 hV2.1 rfl ?_
    refine nk_ifnullR dX7_setWith_4 ?_
    refine nk_aload_n (i := 0) dX7_setWith_7 rfl rfl ?_
    refine nk_getf fX7_42 dX7_setWith_8 hV2.1 rfl ?_
    refine nk_iload_n (i := 2) dX7_setWith_11 rfl rfl ?_
    refine nk_cVi kX7_248 (hk0) dX7_setWith_12 hV2.2.1.1 rfl rfl (by decide) (Nat.le_of_ble_eq_true rfl) ?_
    refine nk_ifne (tgt := 22) dX7_setWith_15 (by decide) (fun h15 => by first | exact absurd h15 ((fun z => z rfl)) | exact absurd ((fun z => z rfl)) h15) (fun _ => ?_)
    refine nk_null dX7_setWith_18 ?_
    refine nk_goto (tgt := 30) dX7_setWith_19 (by decide) ?_
    refine nk_areturnN dX7_setWith_30 rfl ?_
    exact ⟨rfl, rfl⟩
set_option maxRecDepth 20000 in
theorem s_setAt_0 {G : nk_EG} {K : nk_AH} {o : Nat} {v1 v2 v3 v4 v5 f1 f2 : Value} (hn : K o = some (obc v1 v2 v3 v4 v5 .null f1 f2)) {x : Int32} : nk_Sq G mX7_setAt 3 [.ref o, .int x] K (none) K := by
  refine nk_S.of (by decide +kernel) (Nat.le_of_ble_eq_true rfl) rfl ?_
  refine nk_aload_n (i := 0) dX7_setAt_0 rfl rfl ?_
  refine nk_getf fX7_42 dX7_setAt_1 hn rfl ?_
  refine nk_ifnonnullN dX7_setAt_4 ?_
  refine nk_null dX7_setAt_7 ?_
  refine nk_goto (tgt := 19) dX7_setAt_8 (by decide) ?_
  refine nk_areturnN dX7_setAt_19 rfl ?_
  exact ⟨rfl, rfl⟩
set_option maxRecDepth 20000 in
theorem s_setWith_0 {G : nk_EG} {K : nk_AH} {o : Nat} {v1 v2 v3 v4 v5 f1 f2 : Value} (hn : K o = some (obc v1 v2 v3 v4 v5 .null f1 f2)) {x y : Int32} : nk_Sq G mX7_setWith 3 [.ref o, .int x, .int y] K (none) K := by
  refine nk_S.of (by decide +kernel) (Nat.le_of_ble_eq_true rfl) rfl ?_
  refine nk_aload_n (i := 0) dX7_setWith_0 rfl rfl ?_
  refine nk_getf fX7_42 dX7_setWith_1 hn rfl ?_
  refine nk_ifnullN (tgt := 18) dX7_setWith_4 (by decide) ?_
  refine nk_null dX7_setWith_18 ?_
  refine nk_goto (tgt := 30) dX7_setWith_19 (by decide) ?_
  refine nk_areturnN dX7_setWith_30 rfl ?_
  exact ⟨rfl, rfl⟩
theorem s_setAt_n {G : nk_EG} {K : nk_AH} {o m b : Nat} {r : Nat → Int32} (hV : cV K o m b r) {x : Int32} (h : ¬ sp_S m x) : nk_Sq G mX7_setAt 3 [.ref o, .int x] K none K := by
  rcases hV with ⟨_, _, _, _, _, _, _, hn, _⟩ | ⟨_, _, _, _, _, _, _, _, _, _, _, hV2⟩
  · exact s_setAt_0 hn
  · have := s_setAt_q (G := G) hV2 (x := x)
    rw [if_neg h] at this; exact this
theorem s_setAt_s {G : nk_EG} {K : nk_AH} {o m b q sa : Nat} {r : Nat → Int32} {v1 v2 v3 v4 v5 f1 f2 : Value} {qs ws : Nat → Nat} (hV2 : cVs K o m b r v1 v2 v3 v4 v5 f1 f2 q sa qs ws) {x : Int32} (h : sp_S m x) : nk_Sq G mX7_setAt 3 [.ref o, .int x] K (some (qs (sp_n x))) K := by
  have := s_setAt_q (G := G) hV2 (x := x)
  rw [if_pos h] at this; exact this
theorem s_setWith_n {G : nk_EG} {K : nk_AH} {o m b : Nat} {r : Nat → Int32} (hV : cV K o m b r) {x y : Int32} (h : ¬ (sp_S m x ∧ sp_K b y)) : nk_Sq G mX7_setWith 3 [.ref o, .int x, .int y] K none K := by
  rcases hV with ⟨_, _, _, _, _, _, _, hn, _⟩ | ⟨_, _, _, _, _, _, _, _, _, _, _, hV2⟩
  · exact s_setWith_0 hn
  · have := s_setWith_q (G := G) hV2 (x := x) (y := y)
    by_cases h1 : sp_K b y
    · rw [if_pos h1, if_neg (fun z => h ⟨z, h1⟩)] at this; exact this
    · rw [if_neg h1] at this; exact this
theorem s_setWith_s {G : nk_EG} {K : nk_AH} {o m b q sa : Nat} {r : Nat → Int32} {v1 v2 v3 v4 v5 f1 f2 : Value} {qs ws : Nat → Nat} (hV2 : cVs K o m b r v1 v2 v3 v4 v5 f1 f2 q sa qs ws) {x y : Int32} (h : sp_S m x) (h2 : sp_K b y) : nk_Sq G mX7_setWith 3 [.ref o, .int x, .int y] K (some (qs (sp_n x))) K := by
  have := s_setWith_q (G := G) hV2 (x := x) (y := y)
  rw [if_pos h2, if_pos h] at this; exact this
set_option maxRecDepth 20000 in
theorem l_X7_allKeys {G : nk_EG} {H : nk_AH} {q1 w1 j b : Nat} {κ : Int32} {F : Nat → Int32} (hX : cX H q1 w1 j κ b F) (hb2 : 2 ≤ b) (hb10 : b ≤ 10) {q w n i nn : Nat} {l : Int32} {f : Nat → Int32} (hr : cRo H q w l n f) (hn : n ≤ 40) (hin : i + nn ≤ n) : ∀ (n0 : Nat) (t : Nat) (h1 : t ≤ nn) (h2 : nn < t + n0) (hI : sp_ak f b i t = true), nk_J G mX7_allKeys 3 (nk_ri (if sp_ak f b i nn = true then 1 else 0) H) 0 0 3 [some (.ref q1), some (.ref q), some (.int (nI i)), some (.int (nI nn)), some (.int (nI (i + t)))] [] H := by
  intro n0
  induction n0 with
  | zero => intro t h1 h2 hI; omega
  | succ n0 ih =>
    intro t h1 h2 hI
    refine nk_iload dX7_allKeys_3 rfl ?_
    refine nk_iload_n (i := 2) dX7_allKeys_5 rfl rfl ?_
    refine nk_iload_n (i := 3) dX7_allKeys_6 rfl rfl ?_
    refine nk_iadd dX7_allKeys_7 ?_
    refine nk_top (y := nI (i + nn)) (nI_add _ _) ?_
    refine nk_icmpge (tgt := 33) dX7_allKeys_8 (by decide) (fun h8 => ?_) (fun h8 => ?_)
    · skip
      refine nk_iconst (v := 1) dX7_allKeys_33 (by decide) ?_
      refine nk_zreturn dX7_allKeys_34 rfl rfl ?_
      have e : t = nn := by have := nk_leI (a := i + nn) h8 (by omega) (by omega); omega
      exact ⟨by rw [← e, hI]; rfl, rfl⟩
    · skip
      have ht := nk_nleI (a := i + nn) h8 (by omega) (by omega)
      refine nk_aload_n (i := 0) dX7_allKeys_11 rfl rfl ?_
      refine nk_aload_n (i := 1) dX7_allKeys_12 rfl rfl ?_
      refine nk_getf fX7_83 dX7_allKeys_13 hr.1 rfl ?_
      refine nk_iload dX7_allKeys_16 rfl ?_
      refine nk_ialdN (j := i + t) dX7_allKeys_18 hr.2 (rfl) (by omega) (by omega) ?_
      refine nk_cVi kX7_137 (hX.i (fun H' hk => s_X2_isKey hk hb2 hb10)) dX7_allKeys_19 hX.o rfl rfl (by decide) (Nat.le_of_ble_eq_true rfl) ?_
      refine nk_ifne (tgt := 27) dX7_allKeys_22 (by decide) (fun h22 => ?_) (fun h22 => ?_)
      · skip
        simp only [ne_eq, nk_b0, Classical.not_not] at h22
        refine nk_iincT dX7_allKeys_27 rfl (nk_i1 (i + t)) (by decide) ?_
        refine nk_goto (tgt := 3) dX7_allKeys_30 (by decide) ?_
        exact ih (t + 1) (by omega) (by omega) (by rw [sp_ak, hI, decide_eq_true h22]; rfl)
      · skip
        simp only [ne_eq, nk_b0, Classical.not_not] at h22
        refine nk_iconst (v := 0) dX7_allKeys_25 (by decide) ?_
        refine nk_zreturn dX7_allKeys_26 rfl rfl ?_
        have hno : sp_ak f b i (t + 1) = false := by rw [sp_ak, decide_eq_false h22, Bool.and_false]
        exact ⟨by rw [sp_ak_no hno nn (by omega)]; rfl, rfl⟩
set_option maxRecDepth 20000 in
theorem s_X7_allKeys {G : nk_EG} {H : nk_AH} {q1 w1 j b : Nat} {κ : Int32} {F : Nat → Int32} (hX : cX H q1 w1 j κ b F) (hb2 : 2 ≤ b) (hb10 : b ≤ 10) {q w n i nn : Nat} {l : Int32} {f : Nat → Int32} (hr : cRo H q w l n f) (hn : n ≤ 40) (hin : i + nn ≤ n) : nk_Si G mX7_allKeys 3 [.ref q1, .ref q, .int (nI i), .int (nI nn)] H (if sp_ak f b i nn = true then 1 else 0) H := by
  refine nk_S.of (by decide +kernel) (Nat.le_of_ble_eq_true rfl) rfl ?_
  refine nk_iload_n (i := 2) dX7_allKeys_0 rfl rfl ?_
  refine nk_istoreT dX7_allKeys_1 (by decide) ?_
  exact l_X7_allKeys hX hb2 hb10 hr hn hin (nn + 1) 0 (by omega) (by omega) rfl
set_option maxRecDepth 20000 in
theorem l_X7_rowsThere {G : nk_EG} {H : nk_AH} {o a1 : Nat} {v2 v3 v4 v5 sh f1 f2 : Value} {z : Nat → Option Nat} (ho : H o = some (obc (.ref a1) v2 v3 v4 v5 sh f1 f2)) (ha : H a1 = some (.inl (.object RX4, 8, .inr (.inr (.inr (.inr z)))))) : ∀ (n : Nat) (t : Nat) (x5 : Int32 ⊕ Option Nat) (l5 : Option Value) (h1 : t ≤ 8) (h2 : 8 < t + n), nk_J G mX7_rowsThere 1 (nk_ri (nI (cnq z 8)) H) 0 0 13 [some (.ref o), some (.int (nI (cnq z t))), some (.ref a1), some (.int 8), some (.int (nI t)), l5] [] H := by
  intro n
  induction n with
  | zero => intro t x5 l5 h1 h2; omega
  | succ n ih =>
    intro t x5 l5 h1 h2
    refine nk_iload dX7_rowsThere_13 rfl ?_
    refine nk_iload_n (i := 3) dX7_rowsThere_15 rfl rfl ?_
    refine nk_icmpge (tgt := 39) dX7_rowsThere_16 (by decide) (fun h16 => ?_) (fun h16 => ?_)
    · skip
      refine nk_iload_n (i := 1) dX7_rowsThere_39 rfl rfl ?_
      refine nk_ireturn dX7_rowsThere_40 rfl ?_
      have e : t = 8 := by have := nk_leI (a := 8) h16 (by omega) (by omega); omega
      exact ⟨by rw [e], rfl⟩
    · skip
      have ht := nk_nleI (a := 8) h16 (by omega) (by omega)
      refine nk_aload_n (i := 2) dX7_rowsThere_19 rfl rfl ?_
      refine nk_iload dX7_rowsThere_20 rfl ?_
      refine nk_aaldN (j := t) 3 rfl rfl dX7_rowsThere_22 ha (rfl) (by omega) (by decide) rfl ?_
      refine nk_astoreQT dX7_rowsThere_23 (by decide) ?_
      refine nk_aloadQ dX7_rowsThere_25 rfl ?_
      refine nk_ifnullQ (tgt := 33) dX7_rowsThere_27 (by decide) (fun h27 => ?_) (fun x27 h27 => ?_)
      · skip
        have e : nI (cnq z t) = nI (cnq z (t + 1)) := by rw [cnq, h27]; rfl
        refine nk_iincT dX7_rowsThere_33 rfl (nk_i1 t) (by decide) ?_
        refine nk_goto (tgt := 13) dX7_rowsThere_36 (by decide) ?_
        rw [e]
        exact ih (t + 1) (Sum.inl 0) _ (by omega) (by omega)
      · skip
        have e : nI (cnq z t + 1) = nI (cnq z (t + 1)) := by rw [cnq, h27]; rfl
        refine nk_iincT dX7_rowsThere_30 rfl (nk_i1 _) (by decide) ?_
        refine nk_iincT dX7_rowsThere_33 rfl (nk_i1 t) (by decide) ?_
        refine nk_goto (tgt := 13) dX7_rowsThere_36 (by decide) ?_
        rw [e]
        exact ih (t + 1) (Sum.inl 0) _ (by omega) (by omega)
set_option maxRecDepth 20000 in
theorem s_X7_rowsThere {G : nk_EG} {H : nk_AH} {o a1 : Nat} {v2 v3 v4 v5 sh f1 f2 : Value} {z : Nat → Option Nat} (ho : H o = some (obc (.ref a1) v2 v3 v4 v5 sh f1 f2)) (ha : H a1 = some (.inl (.object RX4, 8, .inr (.inr (.inr (.inr z)))))) : nk_Si G mX7_rowsThere 1 [.ref o] H (nI (cnq z 8)) H := by
  refine nk_S.of (by decide +kernel) (Nat.le_of_ble_eq_true rfl) rfl ?_
  refine nk_iconst (v := 0) dX7_rowsThere_0 (by decide) ?_
  refine nk_istore_nT (i := 1) dX7_rowsThere_1 rfl (by decide) ?_
  refine nk_aload_n (i := 0) dX7_rowsThere_2 rfl rfl ?_
  refine nk_getf fX7_11 dX7_rowsThere_3 ho rfl ?_
  refine nk_astore_nT (i := 2) dX7_rowsThere_6 rfl (by decide) ?_
  refine nk_aload_n (i := 2) dX7_rowsThere_7 rfl rfl ?_
  refine nk_alen 3 rfl dX7_rowsThere_8 ha rfl ?_
  refine nk_istore_nT (i := 3) dX7_rowsThere_9 rfl (by decide) ?_
  refine nk_iconst (v := 0) dX7_rowsThere_10 (by decide) ?_
  refine nk_istoreT dX7_rowsThere_11 (by decide) ?_
  exact l_X7_rowsThere ho ha 9 0 (Sum.inl 0) _ (by omega) (by omega)
set_option maxRecDepth 20000 in
theorem s_X7_found {G : nk_EG} {H : nk_AH} {o : Nat} {v1 v2 v3 v4 v5 sh f1 f2 : Value} {x : Int32} (ho : H o = some (obc v1 v2 v3 v4 v5 sh f1 f2)) : nk_Si G mX7_found 1 [.ref o, .int x] H (-1000010 - x) (nk_u H o (obc v1 v2 v3 v4 v5 sh f1 (.int x))) := by
  refine nk_S.of (by decide +kernel) (Nat.le_of_ble_eq_true rfl) rfl ?_
  refine nk_aload_n (i := 0) dX7_found_0 rfl rfl ?_
  refine nk_iload_n (i := 1) dX7_found_1 rfl rfl ?_
  refine nk_putf pX7_50 dX7_found_2 ho rfl rfl (Nat.le_of_ble_eq_true rfl) rfl ?_
  refine nk_ldcw qX7_300 dX7_found_5 ?_
  refine nk_iload_n (i := 1) dX7_found_8 rfl rfl ?_
  refine nk_isub dX7_found_9 ?_
  refine nk_ireturn dX7_found_10 rfl ?_
  exact ⟨rfl, rfl⟩
set_option maxRecDepth 20000 in
theorem s_X7_fine {G : nk_EG} {H : nk_AH} {o : Nat} {v1 v2 v3 v4 v5 sh f1 f2 : Value} {x : Int32} (ho : H o = some (obc v1 v2 v3 v4 v5 sh f1 f2)) : nk_Si G mX7_fine 1 [.ref o, .int x] H (x) (nk_u H o (obc v1 v2 v3 v4 v5 sh f1 (.int 0))) := by
  refine nk_S.of (by decide +kernel) (Nat.le_of_ble_eq_true rfl) rfl ?_
  refine nk_aload_n (i := 0) dX7_fine_0 rfl rfl ?_
  refine nk_iconst (v := 0) dX7_fine_1 (by decide) ?_
  refine nk_putf pX7_50 dX7_fine_2 ho rfl rfl (Nat.le_of_ble_eq_true rfl) rfl ?_
  refine nk_iload_n (i := 1) dX7_fine_5 rfl rfl ?_
  refine nk_ireturn dX7_fine_6 rfl ?_
  exact ⟨rfl, rfl⟩

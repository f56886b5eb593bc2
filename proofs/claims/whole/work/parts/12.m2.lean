/-! the reference: copies, counts, searches -/
set_option maxRecDepth 20000 in
theorem l_X8_copyShelf {G : nk_EG} {ad : Nat → Nat} {A : Nat → Nat → Int32} {I : Nat → Int32} (hi : mInj ad) {a b : Nat} (ha : a + 134 ≤ 3752) (hb : b + 134 ≤ 3752) (hx : a + 134 ≤ b ∨ b + 134 ≤ a) : ∀ (n : Nat) (k : Nat) (h1 : k ≤ 134) (h2 : 134 < k + n), nk_J G mX8_copyShelf 1 (nk_rv (mh ad (va_up A 0 (va_cpy (A 0) (A 0) a b 134)) I)) 0 0 2 [some (.ref (ad 0)), some (.int (nI a)), some (.int (nI b)), some (.int (nI k))] [] (mh ad (va_up A 0 (va_cpy (A 0) (A 0) a b k)) I) := by
  intro n
  induction n with
  | zero => intro k h1 h2; omega
  | succ n ih =>
    intro k h1 h2
    refine nk_iload_n (i := 3) dX8_copyShelf_2 rfl rfl ?_
    refine nk_sipush (v := 134) dX8_copyShelf_3 (by decide) ?_
    refine nk_icmpge (tgt := 31) dX8_copyShelf_6 (by decide) (fun h6 => ?_) (fun h6 => ?_)
    · skip
      refine nk_vreturn dX8_copyShelf_31 rfl ?_
      obtain rfl : k = 134 := by have := nk_leI (a := 134) h6 (by omega) (by omega); omega
      exact ⟨rfl, rfl⟩
    · skip
      have hk := nk_nleI (a := 134) h6 (by omega) (by omega)
      refine nk_aload_n (i := 0) dX8_copyShelf_9 rfl rfl ?_
      refine nk_getf fX8_7 dX8_copyShelf_10 mh_0 rfl ?_
      refine nk_iload_n (i := 2) dX8_copyShelf_13 rfl rfl ?_
      refine nk_iload_n (i := 3) dX8_copyShelf_14 rfl rfl ?_
      refine nk_iadd dX8_copyShelf_15 ?_
      refine nk_aload_n (i := 0) dX8_copyShelf_16 rfl rfl ?_
      refine nk_getf fX8_7 dX8_copyShelf_17 mh_0 rfl ?_
      refine nk_iload_n (i := 1) dX8_copyShelf_20 rfl rfl ?_
      refine nk_iload_n (i := 3) dX8_copyShelf_21 rfl rfl ?_
      refine nk_iadd dX8_copyShelf_22 ?_
      refine nk_ialdN (j := a + k) dX8_copyShelf_23 (mh_1 hi) (nI_add a k) (by omega) (by decide) ?_
      refine nk_top (y := A 0 (a + k)) (va_cpy_out (by omega)) ?_
      refine nk_iastN (j := b + k) dX8_copyShelf_24 (mh_1 hi) (nI_add b k) (by omega) (by decide) ?_
      refine nk_J.to ?_ rfl rfl (mu_A0 hi)
      refine nk_iincT dX8_copyShelf_25 rfl (nk_i1 k) (by decide) ?_
      refine nk_goto (tgt := 2) dX8_copyShelf_28 (by decide) ?_
      exact (ih (k + 1) (by omega) (by omega)).to rfl rfl (by rw [bx_uu]; exact congrArg (fun z => mh ad (va_up A 0 z) I) (va_cpy_step (by omega)))
set_option maxRecDepth 20000 in
theorem s_X8_copyShelf {G : nk_EG} {ad : Nat → Nat} {A : Nat → Nat → Int32} {I : Nat → Int32} (hi : mInj ad) {a b : Nat} (ha : a + 134 ≤ 3752) (hb : b + 134 ≤ 3752) (hx : a + 134 ≤ b ∨ b + 134 ≤ a) : nk_Sv G mX8_copyShelf 1 [.ref (ad 0), .int (nI a), .int (nI b)] (mh ad A I) (mh ad (va_up A 0 (va_cpy (A 0) (A 0) a b 134)) I) := by
  refine nk_S.of (by decide +kernel) (Nat.le_of_ble_eq_true rfl) rfl ?_
  refine nk_iconst (v := 0) dX8_copyShelf_0 (by decide) ?_
  refine nk_istore_nT (i := 3) dX8_copyShelf_1 rfl (by decide) ?_
  exact (l_X8_copyShelf hi ha hb hx 135 0 (by omega) (by omega)).to rfl rfl (by rw [va_cpy_0, va_up_same])
set_option maxRecDepth 20000 in
theorem l_X8_keysOf {G : nk_EG} {ad : Nat → Nat} {A : Nat → Nat → Int32} {I : Nat → Int32} (hi : mInj ad) {base s : Nat} (hs : base + 6 + 32 * s + 32 ≤ 3752) : ∀ (n : Nat) (k : Nat) (h1 : k ≤ 32) (h2 : 32 < k + n), nk_J G mX8_keysOf 2 (nk_ri (nI (fb_ct (nk_mem (A 0) base s) 1024)) (mh ad A I)) 0 0 5 [some (.ref (ad 0)), some (.int (nI base)), some (.int (nI s)), some (.int (nI (fb_ct (nk_mem (A 0) base s) (32 * k)))), some (.int (nI k))] [] (mh ad A I) := by
  intro n
  induction n with
  | zero => intro k h1 h2; omega
  | succ n ih =>
    intro k h1 h2
    refine nk_iload dX8_keysOf_5 rfl ?_
    refine nk_bipush (v := 32) dX8_keysOf_7 (by decide) ?_
    refine nk_icmpge (tgt := 41) dX8_keysOf_9 (by decide) (fun h9 => ?_) (fun h9 => ?_)
    · skip
      refine nk_iload_n (i := 3) dX8_keysOf_41 rfl rfl ?_
      refine nk_ireturn dX8_keysOf_42 rfl ?_
      obtain rfl : k = 32 := by have := nk_leI (a := 32) h9 (by omega) (by omega); omega
      exact ⟨rfl, rfl⟩
    · skip
      have hk := nk_nleI (a := 32) h9 (by omega) (by omega)
      refine nk_iload_n (i := 3) dX8_keysOf_12 rfl rfl ?_
      refine nk_aload_n (i := 0) dX8_keysOf_13 rfl rfl ?_
      refine nk_getf fX8_7 dX8_keysOf_14 mh_0 rfl ?_
      refine nk_iload_n (i := 1) dX8_keysOf_17 rfl rfl ?_
      refine nk_bipush (v := 6) dX8_keysOf_18 (by decide) ?_
      refine nk_iadd dX8_keysOf_20 ?_
      refine nk_bipush (v := 32) dX8_keysOf_21 (by decide) ?_
      refine nk_iload_n (i := 2) dX8_keysOf_23 rfl rfl ?_
      refine nk_imul dX8_keysOf_24 ?_
      refine nk_iadd dX8_keysOf_25 ?_
      refine nk_iload dX8_keysOf_26 rfl ?_
      refine nk_iadd dX8_keysOf_28 ?_
      refine nk_ialdN (j := base + 6 + 32 * s + k) dX8_keysOf_29 (mh_1 hi) (nk_ixw base s k) (by omega) (by decide) ?_
      refine nk_cSi kX8_134 (s_X8_ones) dX8_keysOf_30 rfl rfl (by decide) (Nat.le_of_ble_eq_true rfl) ?_
      refine nk_iadd dX8_keysOf_33 ?_
      refine nk_top (y := nI (fb_ct (nk_mem (A 0) base s) (32 * (k + 1)))) (by rw [nI_add, nk_ct_w]) ?_
      refine nk_istore_nT (i := 3) dX8_keysOf_34 rfl (by decide) ?_
      refine nk_iincT dX8_keysOf_35 rfl (nk_i1 k) (by decide) ?_
      refine nk_goto (tgt := 5) dX8_keysOf_38 (by decide) ?_
      exact ih (k + 1) (by omega) (by omega)
set_option maxRecDepth 20000 in
theorem s_X8_keysOf {G : nk_EG} {ad : Nat → Nat} {A : Nat → Nat → Int32} {I : Nat → Int32} (hi : mInj ad) {base s : Nat} (hs : base + 6 + 32 * s + 32 ≤ 3752) : nk_Si G mX8_keysOf 2 [.ref (ad 0), .int (nI base), .int (nI s)] (mh ad A I) (nI (fb_ct (nk_mem (A 0) base s) 1024)) (mh ad A I) := by
  refine nk_S.of (by decide +kernel) (Nat.le_of_ble_eq_true rfl) rfl ?_
  refine nk_iconst (v := 0) dX8_keysOf_0 (by decide) ?_
  refine nk_istore_nT (i := 3) dX8_keysOf_1 rfl (by decide) ?_
  refine nk_iconst (v := 0) dX8_keysOf_2 (by decide) ?_
  refine nk_istoreT dX8_keysOf_3 (by decide) ?_
  exact l_X8_keysOf hi hs 33 0 (by omega) (by omega)
set_option maxRecDepth 20000 in
theorem l_X8_above {G : nk_EG} {ad : Nat → Nat} {A : Nat → Nat → Int32} {I : Nat → Int32} (hi : mInj ad) {m b s : Nat} (hm : mSh (A 0) 0 m b) (hs : s < 4) {x : Int32} {a : Nat} : ∀ (n : Nat) (k : Nat) (h0 : a ≤ k) (h1 : k ≤ nk_tp b) (h2 : nk_tp b < k + n) (h3 : ∀ j, a ≤ j → j < k → nk_mem (A 0) 0 s j = false), nk_J G mX8_above 3 (nk_ri (nk_rN (nk_up (nk_mem (A 0) 0 s) a (nk_tp b - a))) (mh ad A I)) 0 0 4 [some (.ref (ad 0)), some (.int (nI s)), some (.int x), some (.int (nI k))] [] (mh ad A I) := by
  intro n
  induction n with
  | zero => intro k h0 h1 h2 h3; omega
  | succ n ih =>
    intro k h0 h1 h2 h3
    have ht := nk_tp_le hm.2.2.2
    refine nk_iload_n (i := 3) dX8_above_4 rfl rfl ?_
    refine nk_aload_n (i := 0) dX8_above_5 rfl rfl ?_
    refine nk_cVi kX8_127 (s_X8_top hi hm.2.1 hm.2.2.2) dX8_above_6 mh_0 rfl rfl (by decide) (Nat.le_of_ble_eq_true rfl) ?_
    refine nk_icmpge (tgt := 28) dX8_above_9 (by decide) (fun h9 => ?_) (fun h9 => ?_)
    · skip
      refine nk_iload_n (i := 3) dX8_above_28 rfl rfl ?_
      refine nk_aload_n (i := 0) dX8_above_29 rfl rfl ?_
      refine nk_cVi kX8_127 (s_X8_top hi hm.2.1 hm.2.2.2) dX8_above_30 mh_0 rfl rfl (by decide) (Nat.le_of_ble_eq_true rfl) ?_
      refine nk_icmplt (tgt := 41) dX8_above_33 (by decide) (fun h33 => ?_) (fun h33 => ?_)
      · skip
        refine nk_iload_n (i := 3) dX8_above_41 rfl rfl ?_
        refine nk_ireturn dX8_above_42 rfl ?_
        first
        | (have hk := nk_leI (a := nk_tp b) h9 (by omega) (by omega); exact absurd h33 (nI_nlt (by omega) (by omega)))
        | (have hk := nk_leI (a := nk_tp b) h9 (by omega) (by omega); exact ⟨by rw [nk_up_no (fun j j1 j2 => h3 j j1 (by omega))]; rfl, rfl⟩)
        | exact ⟨by rw [nk_up_eq (k := k) h0 (by omega) (by simpa using h19) h3]; rfl, rfl⟩
        | exact absurd (nI_lt hk (by omega)) h33
      · skip
        refine nk_ldc qX8_140 dX8_above_36 ?_
        refine nk_goto (tgt := 42) dX8_above_38 (by decide) ?_
        refine nk_ireturn dX8_above_42 rfl ?_
        first
        | (have hk := nk_leI (a := nk_tp b) h9 (by omega) (by omega); exact absurd h33 (nI_nlt (by omega) (by omega)))
        | (have hk := nk_leI (a := nk_tp b) h9 (by omega) (by omega); exact ⟨by rw [nk_up_no (fun j j1 j2 => h3 j j1 (by omega))]; rfl, rfl⟩)
        | exact ⟨by rw [nk_up_eq (k := k) h0 (by omega) (by simpa using h19) h3]; rfl, rfl⟩
        | exact absurd (nI_lt hk (by omega)) h33
    · skip
      have hk := nk_nleI (a := nk_tp b) h9 (by omega) (by omega)
      refine nk_aload_n (i := 0) dX8_above_12 rfl rfl ?_
      refine nk_iconst (v := 0) dX8_above_13 (by decide) ?_
      refine nk_iload_n (i := 1) dX8_above_14 rfl rfl ?_
      refine nk_iload_n (i := 3) dX8_above_15 rfl rfl ?_
      refine nk_cVi kX8_137 (s_X8_hasKey hi (base := 0) (s := s) (k := k) (by omega) (by omega)) dX8_above_16 mh_0 rfl rfl (by decide) (Nat.le_of_ble_eq_true rfl) ?_
      refine nk_ifne (tgt := 28) dX8_above_19 (by decide) (fun h19 => ?_) (fun h19 => ?_)
      · skip
        rw [nk_b0] at h19
        refine nk_iload_n (i := 3) dX8_above_28 rfl rfl ?_
        refine nk_aload_n (i := 0) dX8_above_29 rfl rfl ?_
        refine nk_cVi kX8_127 (s_X8_top hi hm.2.1 hm.2.2.2) dX8_above_30 mh_0 rfl rfl (by decide) (Nat.le_of_ble_eq_true rfl) ?_
        refine nk_icmplt (tgt := 41) dX8_above_33 (by decide) (fun h33 => ?_) (fun h33 => ?_)
        · skip
          refine nk_iload_n (i := 3) dX8_above_41 rfl rfl ?_
          refine nk_ireturn dX8_above_42 rfl ?_
          first
          | (have hk := nk_leI (a := nk_tp b) h9 (by omega) (by omega); exact absurd h33 (nI_nlt (by omega) (by omega)))
          | (have hk := nk_leI (a := nk_tp b) h9 (by omega) (by omega); exact ⟨by rw [nk_up_no (fun j j1 j2 => h3 j j1 (by omega))]; rfl, rfl⟩)
          | exact ⟨by rw [nk_up_eq (k := k) h0 (by omega) (by simpa using h19) h3]; rfl, rfl⟩
          | exact absurd (nI_lt hk (by omega)) h33
        · skip
          refine nk_ldc qX8_140 dX8_above_36 ?_
          refine nk_goto (tgt := 42) dX8_above_38 (by decide) ?_
          refine nk_ireturn dX8_above_42 rfl ?_
          first
          | (have hk := nk_leI (a := nk_tp b) h9 (by omega) (by omega); exact absurd h33 (nI_nlt (by omega) (by omega)))
          | (have hk := nk_leI (a := nk_tp b) h9 (by omega) (by omega); exact ⟨by rw [nk_up_no (fun j j1 j2 => h3 j j1 (by omega))]; rfl, rfl⟩)
          | exact ⟨by rw [nk_up_eq (k := k) h0 (by omega) (by simpa using h19) h3]; rfl, rfl⟩
          | exact absurd (nI_lt hk (by omega)) h33
      · skip
        rw [nk_b0] at h19
        refine nk_iincT dX8_above_22 rfl (nk_i1 k) (by decide) ?_
        refine nk_goto (tgt := 4) dX8_above_25 (by decide) ?_
        exact ih (k + 1) (by omega) (by omega) (by omega) (fun j j1 j2 => by
          rcases Nat.eq_or_lt_of_le (Nat.le_of_lt_succ j2) with e | e
          · subst e; simpa using h19
          · exact h3 j j1 e)
set_option maxRecDepth 20000 in
theorem s_X8_above {G : nk_EG} {ad : Nat → Nat} {A : Nat → Nat → Int32} {I : Nat → Int32} (hi : mInj ad) {m b s : Nat} (hm : mSh (A 0) 0 m b) (hs : s < 4) {x : Int32} {a : Nat} (hx : x + 1 = nI a) (ha : a ≤ nk_tp b) : nk_Si G mX8_above 3 [.ref (ad 0), .int (nI s), .int x] (mh ad A I) (nk_rN (nk_up (nk_mem (A 0) 0 s) a (nk_tp b - a))) (mh ad A I) := by
  refine nk_S.of (by decide +kernel) (Nat.le_of_ble_eq_true rfl) rfl ?_
  refine nk_iload_n (i := 2) dX8_above_0 rfl rfl ?_
  refine nk_iconst (v := 1) dX8_above_1 (by decide) ?_
  refine nk_iadd dX8_above_2 ?_
  refine nk_top (y := nI a) (hx) ?_
  refine nk_istore_nT (i := 3) dX8_above_3 rfl (by decide) ?_
  exact l_X8_above hi hm hs (nk_tp b + 1) a (Nat.le_refl _) ha (by omega) (fun j j1 j2 => by omega)
set_option maxRecDepth 20000 in
theorem l_X8_below {G : nk_EG} {ad : Nat → Nat} {A : Nat → Nat → Int32} {I : Nat → Int32} (hi : mInj ad) {m b s : Nat} (hm : mSh (A 0) 0 m b) (hs : s < 4) {x : Int32} {a : Nat} (ha : a ≤ nk_tp b) : ∀ (n : Nat) (k : Nat) (h0 : k ≤ a) (h2 : k < n) (h3 : ∀ j, k ≤ j → j < a → nk_mem (A 0) 0 s j = false), nk_J G mX8_below 3 (nk_ri (nk_rN (nk_dn (nk_mem (A 0) 0 s) a)) (mh ad A I)) 0 0 4 [some (.ref (ad 0)), some (.int (nI s)), some (.int x), some (.int (nI k - 1))] [] (mh ad A I) := by
  intro n
  induction n with
  | zero => intro k h0 h2 h3; omega
  | succ n ih =>
    intro k h0 h2 h3
    have ht := nk_tp_le hm.2.2.2
    refine nk_iload_n (i := 3) dX8_below_4 rfl rfl ?_
    refine nk_iflt (tgt := 24) dX8_below_5 (by decide) (fun h5 => ?_) (fun h5 => ?_)
    · skip
      refine nk_iload_n (i := 3) dX8_below_24 rfl rfl ?_
      refine nk_ifge (tgt := 33) dX8_below_25 (by decide) (fun h25 => ?_) (fun h25 => ?_)
      · skip
        refine nk_iload_n (i := 3) dX8_below_33 rfl rfl ?_
        refine nk_ireturn dX8_below_34 rfl ?_
        first
        | exact absurd h5 (Int32.not_lt.mpr h25)
        | (have hk0 := nk_pm0 (by omega) h5; exact ⟨by rw [nk_dn_no (fun j j2 => h3 j (by omega) j2)]; rfl, rfl⟩)
        | exact ⟨by rw [nk_dn_eq (k := k - 1) (by omega) (by simpa using h15) (fun j j1 j2 => h3 j (by omega) j2), nk_pm1 hk]; rfl, rfl⟩
        | exact absurd (Int32.not_lt.mp h5) h25
      · skip
        refine nk_ldc qX8_140 dX8_below_28 ?_
        refine nk_goto (tgt := 34) dX8_below_30 (by decide) ?_
        refine nk_ireturn dX8_below_34 rfl ?_
        first
        | exact absurd h5 (Int32.not_lt.mpr h25)
        | (have hk0 := nk_pm0 (by omega) h5; exact ⟨by rw [nk_dn_no (fun j j2 => h3 j (by omega) j2)]; rfl, rfl⟩)
        | exact ⟨by rw [nk_dn_eq (k := k - 1) (by omega) (by simpa using h15) (fun j j1 j2 => h3 j (by omega) j2), nk_pm1 hk]; rfl, rfl⟩
        | exact absurd (Int32.not_lt.mp h5) h25
    · skip
      have hk := nk_pm h5
      refine nk_aload_n (i := 0) dX8_below_8 rfl rfl ?_
      refine nk_iconst (v := 0) dX8_below_9 (by decide) ?_
      refine nk_iload_n (i := 1) dX8_below_10 rfl rfl ?_
      refine nk_iload_n (i := 3) dX8_below_11 rfl rfl ?_
      refine nk_top (y := nI (k - 1)) (nk_pm1 hk) ?_
      refine nk_cVi kX8_137 (s_X8_hasKey hi (base := 0) (s := s) (k := k - 1) (by omega) (by omega)) dX8_below_12 mh_0 rfl rfl (by decide) (Nat.le_of_ble_eq_true rfl) ?_
      refine nk_ifne (tgt := 24) dX8_below_15 (by decide) (fun h15 => ?_) (fun h15 => ?_)
      · skip
        rw [nk_b0] at h15
        refine nk_iload_n (i := 3) dX8_below_24 rfl rfl ?_
        refine nk_ifge (tgt := 33) dX8_below_25 (by decide) (fun h25 => ?_) (fun h25 => ?_)
        · skip
          refine nk_iload_n (i := 3) dX8_below_33 rfl rfl ?_
          refine nk_ireturn dX8_below_34 rfl ?_
          first
          | exact absurd h5 (Int32.not_lt.mpr h25)
          | (have hk0 := nk_pm0 (by omega) h5; exact ⟨by rw [nk_dn_no (fun j j2 => h3 j (by omega) j2)]; rfl, rfl⟩)
          | exact ⟨by rw [nk_dn_eq (k := k - 1) (by omega) (by simpa using h15) (fun j j1 j2 => h3 j (by omega) j2), nk_pm1 hk]; rfl, rfl⟩
          | exact absurd (Int32.not_lt.mp h5) h25
        · skip
          refine nk_ldc qX8_140 dX8_below_28 ?_
          refine nk_goto (tgt := 34) dX8_below_30 (by decide) ?_
          refine nk_ireturn dX8_below_34 rfl ?_
          first
          | exact absurd h5 (Int32.not_lt.mpr h25)
          | (have hk0 := nk_pm0 (by omega) h5; exact ⟨by rw [nk_dn_no (fun j j2 => h3 j (by omega) j2)]; rfl, rfl⟩)
          | exact ⟨by rw [nk_dn_eq (k := k - 1) (by omega) (by simpa using h15) (fun j j1 j2 => h3 j (by omega) j2), nk_pm1 hk]; rfl, rfl⟩
          | exact absurd (Int32.not_lt.mp h5) h25
      · skip
        rw [nk_b0] at h15
        refine nk_iincT dX8_below_18 rfl (nk_dec1 hk) (by decide) ?_
        refine nk_goto (tgt := 4) dX8_below_21 (by decide) ?_
        exact ih (k - 1) (by omega) (by omega) (fun j j1 j2 => by
          rcases Nat.eq_or_lt_of_le j1 with e | e
          · subst e; simpa using h15
          · exact h3 j (by omega) j2)

set_option maxRecDepth 20000 in
theorem s_X8_below {G : nk_EG} {ad : Nat → Nat} {A : Nat → Nat → Int32} {I : Nat → Int32} (hi : mInj ad) {m b s : Nat} (hm : mSh (A 0) 0 m b) (hs : s < 4) {a : Nat} (ha : a ≤ nk_tp b) : nk_Si G mX8_below 3 [.ref (ad 0), .int (nI s), .int (nI a)] (mh ad A I) (nk_rN (nk_dn (nk_mem (A 0) 0 s) a)) (mh ad A I) := by
  refine nk_S.of (by decide +kernel) (Nat.le_of_ble_eq_true rfl) rfl ?_
  refine nk_iload_n (i := 2) dX8_below_0 rfl rfl ?_
  refine nk_iconst (v := 1) dX8_below_1 (by decide) ?_
  refine nk_isub dX8_below_2 ?_
  refine nk_istore_nT (i := 3) dX8_below_3 rfl (by decide) ?_
  exact l_X8_below hi hm hs ha (a + 1) a (Nat.le_refl _) (by omega) (fun j j1 j2 => by omega)
set_option maxRecDepth 20000 in
theorem s_X8_leastOf {G : nk_EG} {ad : Nat → Nat} {A : Nat → Nat → Int32} {I : Nat → Int32} (hi : mInj ad) {m b s : Nat} (hm : mSh (A 0) 0 m b) (hs : s < 4) : nk_Si G mX8_leastOf 4 [.ref (ad 0), .int (nI s)] (mh ad A I) (nk_rN (nk_up (nk_mem (A 0) 0 s) 0 (nk_tp b))) (mh ad A I) := by
  refine nk_S.of (by decide +kernel) (Nat.le_of_ble_eq_true rfl) rfl ?_
  refine nk_aload_n (i := 0) dX8_leastOf_0 rfl rfl ?_
  refine nk_iload_n (i := 1) dX8_leastOf_1 rfl rfl ?_
  refine nk_iconst (v := -1) dX8_leastOf_2 (by decide) ?_
  refine nk_cVi kX8_141 (s_X8_above hi hm hs (a := 0) (by decide) (by omega)) dX8_leastOf_3 mh_0 rfl rfl (by decide) (Nat.le_of_ble_eq_true rfl) ?_
  refine nk_ireturn dX8_leastOf_6 rfl ?_
  exact ⟨rfl, rfl⟩
set_option maxRecDepth 20000 in
theorem s_X8_greatestOf {G : nk_EG} {ad : Nat → Nat} {A : Nat → Nat → Int32} {I : Nat → Int32} (hi : mInj ad) {m b s : Nat} (hm : mSh (A 0) 0 m b) (hs : s < 4) : nk_Si G mX8_greatestOf 4 [.ref (ad 0), .int (nI s)] (mh ad A I) (nk_rN (nk_dn (nk_mem (A 0) 0 s) (nk_tp b))) (mh ad A I) := by
  refine nk_S.of (by decide +kernel) (Nat.le_of_ble_eq_true rfl) rfl ?_
  refine nk_aload_n (i := 0) dX8_greatestOf_0 rfl rfl ?_
  refine nk_iload_n (i := 1) dX8_greatestOf_1 rfl rfl ?_
  refine nk_aload_n (i := 0) dX8_greatestOf_2 rfl rfl ?_
  refine nk_cVi kX8_127 (s_X8_top hi hm.2.1 hm.2.2.2) dX8_greatestOf_3 mh_0 rfl rfl (by decide) (Nat.le_of_ble_eq_true rfl) ?_
  refine nk_cVi kX8_144 (s_X8_below hi hm hs (Nat.le_refl _)) dX8_greatestOf_6 mh_0 rfl rfl (by decide) (Nat.le_of_ble_eq_true rfl) ?_
  refine nk_ireturn dX8_greatestOf_9 rfl ?_
  exact ⟨rfl, rfl⟩

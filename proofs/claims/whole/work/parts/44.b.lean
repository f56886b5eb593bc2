/-! the class: what a set tells -/
set_option maxRecDepth 20000 in
theorem s_X2_least {G : nk_EG} {H : nk_AH} {q w j b : Nat} {κ : Int32} {f : Nat → Int32} (hk : cK H q w j κ b f) (hb2 : 2 ≤ b) (hb10 : b ≤ 10) (hz : gz f b) : nk_Si G mX2_least 4 [.ref q] H (nk_rN (nk_up (gm f) 0 (nk_tp b))) H := by
  refine nk_S.of (by decide +kernel) (Nat.le_of_ble_eq_true rfl) rfl ?_
  refine nk_aload_n (i := 0) dX2_least_0 rfl rfl ?_
  refine nk_iconst (v := 0) dX2_least_1 (by decide) ?_
  refine nk_cVi kX2_100 (s_X2_from hk hb2 hb10 hz (k := 0) (Nat.zero_le _)) dX2_least_2 hk.1 rfl rfl (by decide) (Nat.le_of_ble_eq_true rfl) ?_
  refine nk_ireturn dX2_least_5 rfl ?_
  exact ⟨rfl, rfl⟩
set_option maxRecDepth 20000 in
theorem s_X2_greatest {G : nk_EG} {H : nk_AH} {q w j b : Nat} {κ : Int32} {f : Nat → Int32} (hk : cK H q w j κ b f) (hb2 : 2 ≤ b) (hb10 : b ≤ 10) : nk_Si G mX2_greatest 4 [.ref q] H (nk_rN (nk_dn (gm f) (nk_tp b))) H := by
  refine nk_S.of (by decide +kernel) (Nat.le_of_ble_eq_true rfl) rfl ?_
  refine nk_aload_n (i := 0) dX2_greatest_0 rfl rfl ?_
  refine nk_aload_n (i := 0) dX2_greatest_1 rfl rfl ?_
  refine nk_getf fX2_18 dX2_greatest_2 hk.1 rfl ?_
  refine nk_iconst (v := 1) dX2_greatest_5 (by decide) ?_
  refine nk_isub dX2_greatest_6 ?_
  refine nk_cVi kX2_103 (s_X2_upTo hk hb2 hb10 (a := nk_tp b) (Nat.le_refl _)) dX2_greatest_7 hk.1 rfl rfl (by decide) (Nat.le_of_ble_eq_true rfl) ?_
  refine nk_ireturn dX2_greatest_10 rfl ?_
  exact ⟨rfl, rfl⟩
set_option maxRecDepth 20000 in
theorem s_X2_eitherOf {G : nk_EG} {x y : Int32} {H : nk_AH} : nk_Si G mX2_eitherOf 1 [.int x, .int y] H (if x = -1000000 then y else x) H := by
  refine nk_S.of (by decide +kernel) (Nat.le_of_ble_eq_true rfl) rfl ?_
  refine nk_iload_n (i := 0) dX2_eitherOf_0 rfl rfl ?_
  refine nk_ldc qX2_96 dX2_eitherOf_1 ?_
  refine nk_icmpne (tgt := 10) dX2_eitherOf_3 (by decide) (fun h3 => ?_) (fun h3 => ?_)
  · skip
    refine nk_iload_n (i := 0) dX2_eitherOf_10 rfl rfl ?_
    refine nk_ireturn dX2_eitherOf_11 rfl ?_
    first
    | exact ⟨by rw [if_pos h3], rfl⟩
    | exact ⟨by rw [if_neg h3], rfl⟩
  · skip
    refine nk_iload_n (i := 1) dX2_eitherOf_6 rfl rfl ?_
    refine nk_goto (tgt := 11) dX2_eitherOf_7 (by decide) ?_
    refine nk_ireturn dX2_eitherOf_11 rfl ?_
    first
    | exact ⟨by rw [if_pos h3], rfl⟩
    | exact ⟨by rw [if_neg h3], rfl⟩
set_option maxRecDepth 20000 in
theorem s_X2_following {G : nk_EG} {H : nk_AH} {q w j b : Nat} {κ : Int32} {f : Nat → Int32} (hk : cK H q w j κ b f) (hb2 : 2 ≤ b) (hb10 : b ≤ 10) (hz : gz f b) {k : Nat} (hkt : k < nk_tp b) : nk_Si G mX2_following 5 [.ref q, .int (nI k)] H (nk_rN (sp_nx (gm f) (nk_tp b) κ k)) H := by
  refine nk_S.of (by decide +kernel) (Nat.le_of_ble_eq_true rfl) rfl ?_
  have hwm := wm_f b hb10 hb2
  refine nk_aload_n (i := 0) dX2_following_0 rfl rfl ?_
  refine nk_getf fX2_15 dX2_following_1 hk.1 rfl ?_
  by_cases c4_2 : κ = 2
  · skip
    refine nk_top (y := 2) c4_2 ?_
    refine nk_tableIn (tgt := 36) (off := 32) dX2_following_4 (by decide) (by decide) (by decide) (by decide) ?_
    refine nk_aload_n (i := 0) dX2_following_36 rfl rfl ?_
    refine nk_iload_n (i := 1) dX2_following_37 rfl rfl ?_
    refine nk_iconst (v := 1) dX2_following_38 (by decide) ?_
    refine nk_iadd dX2_following_39 ?_
    refine nk_top (y := nI (k + 1)) (nI_1 k) ?_
    refine nk_cVi kX2_100 (s_X2_from hk hb2 hb10 hz (k := k + 1) (by omega)) dX2_following_40 hk.1 rfl rfl (by decide) (Nat.le_of_ble_eq_true rfl) ?_
    refine nk_aload_n (i := 0) dX2_following_43 rfl rfl ?_
    refine nk_cVi kX2_106 (s_X2_least hk hb2 hb10 hz) dX2_following_44 hk.1 rfl rfl (by decide) (Nat.le_of_ble_eq_true rfl) ?_
    refine nk_cSi kX2_110 (s_X2_eitherOf) dX2_following_47 rfl rfl (by decide) (Nat.le_of_ble_eq_true rfl) ?_
    refine nk_ireturn dX2_following_50 rfl ?_
    exact ⟨by rw [nk_either (nk_up_b (by omega)), c4_2]; rfl, rfl⟩
  by_cases c4_3 : κ = 3
  · skip
    refine nk_top (y := 3) c4_3 ?_
    refine nk_tableIn (tgt := 51) (off := 47) dX2_following_4 (by decide) (by decide) (by decide) (by decide) ?_
    refine nk_aload_n (i := 0) dX2_following_51 rfl rfl ?_
    refine nk_iload_n (i := 1) dX2_following_52 rfl rfl ?_
    refine nk_cVi kX2_100 (s_X2_from hk hb2 hb10 hz (k := k) (by omega)) dX2_following_53 hk.1 rfl rfl (by decide) (Nat.le_of_ble_eq_true rfl) ?_
    refine nk_ireturn dX2_following_56 rfl ?_
    exact ⟨by rw [nk_up_k hkt, c4_3]; rfl, rfl⟩
  by_cases c4_4 : κ = 4
  · skip
    refine nk_top (y := 4) c4_4 ?_
    refine nk_tableIn (tgt := 57) (off := 53) dX2_following_4 (by decide) (by decide) (by decide) (by decide) ?_
    refine nk_aload_n (i := 0) dX2_following_57 rfl rfl ?_
    refine nk_iload_n (i := 1) dX2_following_58 rfl rfl ?_
    refine nk_iconst (v := 1) dX2_following_59 (by decide) ?_
    refine nk_isub dX2_following_60 ?_
    refine nk_cVi kX2_103 (s_X2_upTo hk hb2 hb10 (a := k) (by omega)) dX2_following_61 hk.1 rfl rfl (by decide) (Nat.le_of_ble_eq_true rfl) ?_
    refine nk_ireturn dX2_following_64 rfl ?_
    exact ⟨by rw [c4_4]; rfl, rfl⟩
  by_cases c4_5 : κ = 5
  · skip
    refine nk_top (y := 5) c4_5 ?_
    refine nk_tableIn (tgt := 65) (off := 61) dX2_following_4 (by decide) (by decide) (by decide) (by decide) ?_
    refine nk_aload_n (i := 0) dX2_following_65 rfl rfl ?_
    refine nk_iload_n (i := 1) dX2_following_66 rfl rfl ?_
    refine nk_iconst (v := 1) dX2_following_67 (by decide) ?_
    refine nk_isub dX2_following_68 ?_
    refine nk_cVi kX2_103 (s_X2_upTo hk hb2 hb10 (a := k) (by omega)) dX2_following_69 hk.1 rfl rfl (by decide) (Nat.le_of_ble_eq_true rfl) ?_
    refine nk_aload_n (i := 0) dX2_following_72 rfl rfl ?_
    refine nk_cVi kX2_113 (s_X2_greatest hk hb2 hb10) dX2_following_73 hk.1 rfl rfl (by decide) (Nat.le_of_ble_eq_true rfl) ?_
    refine nk_cSi kX2_110 (s_X2_eitherOf) dX2_following_76 rfl rfl (by decide) (Nat.le_of_ble_eq_true rfl) ?_
    refine nk_ireturn dX2_following_79 rfl ?_
    exact ⟨by rw [nk_either (nk_dn_b (by omega)), c4_5]; rfl, rfl⟩
  have e4_2 : (κ).toInt ≠ 2 := nk_neI c4_2
  have e4_3 : (κ).toInt ≠ 3 := nk_neI c4_3
  have e4_4 : (κ).toInt ≠ 4 := nk_neI c4_4
  have e4_5 : (κ).toInt ≠ 5 := nk_neI c4_5
  refine nk_tableOut (tgt := 80) dX2_following_4 (by omega) (by decide) ?_
  refine nk_aload_n (i := 0) dX2_following_80 rfl rfl ?_
  refine nk_iload_n (i := 1) dX2_following_81 rfl rfl ?_
  refine nk_iconst (v := 1) dX2_following_82 (by decide) ?_
  refine nk_iadd dX2_following_83 ?_
  refine nk_top (y := nI (k + 1)) (nI_1 k) ?_
  refine nk_cVi kX2_100 (s_X2_from hk hb2 hb10 hz (k := k + 1) (by omega)) dX2_following_84 hk.1 rfl rfl (by decide) (Nat.le_of_ble_eq_true rfl) ?_
  refine nk_ireturn dX2_following_87 rfl ?_
  exact ⟨by unfold sp_nx; rw [if_neg c4_2, if_neg c4_3, if_neg c4_4, if_neg c4_5]; rfl, rfl⟩
set_option maxRecDepth 20000 in
theorem s_X2_nearest {G : nk_EG} {H : nk_AH} {q w j b : Nat} {κ : Int32} {f : Nat → Int32} (hk : cK H q w j κ b f) (hb2 : 2 ≤ b) (hb10 : b ≤ 10) (hz : gz f b) {k : Nat} (hkt : k < nk_tp b) : nk_Si G mX2_nearest 4 [.ref q, .int (nI k)] H (nk_rN (sp_nr (gm f) (nk_tp b) k)) H := by
  refine nk_S.of (by decide +kernel) (Nat.le_of_ble_eq_true rfl) rfl ?_
  have hwm := wm_f b hb10 hb2
  refine nk_aload_n (i := 0) dX2_nearest_0 rfl rfl ?_
  refine nk_iload_n (i := 1) dX2_nearest_1 rfl rfl ?_
  refine nk_cVi kX2_100 (s_X2_from hk hb2 hb10 hz (k := k) (by omega)) dX2_nearest_2 hk.1 rfl rfl (by decide) (Nat.le_of_ble_eq_true rfl) ?_
  rw [nk_up_k hkt]
  refine nk_istore_nT (i := 2) dX2_nearest_5 rfl (by decide) ?_
  refine nk_aload_n (i := 0) dX2_nearest_6 rfl rfl ?_
  refine nk_iload_n (i := 1) dX2_nearest_7 rfl rfl ?_
  refine nk_top (y := nI (k + 1) - 1) ((nk_pm1 (k := k + 1) (by omega)).symm) ?_
  refine nk_cVi kX2_103 (s_X2_upTo hk hb2 hb10 (a := k + 1) (by omega)) dX2_nearest_8 hk.1 rfl rfl (by decide) (Nat.le_of_ble_eq_true rfl) ?_
  rw [nk_dn_k]
  unfold sp_nr
  refine nk_istore_nT (i := 3) dX2_nearest_11 rfl (by decide) ?_
  by_cases c : gm f k = true
  · rw [if_pos c, if_pos c, if_pos c]
    refine nk_iload_n (i := 2) dX2_nearest_12 rfl rfl ?_
    refine nk_ldc qX2_96 dX2_nearest_13 ?_
    refine nk_icmpeq (tgt := 24) dX2_nearest_15 (by decide) (fun h15 => by first | exact absurd h15 (fun z => absurd (nk_eqI (b := 2 ^ 31 - 1) (show nI k = nI (2 ^ 31 - 1) from absurd z (nk_neN (by omega))) (by omega) (by omega)) (by omega)) | exact absurd (fun z => absurd (nk_eqI (b := 2 ^ 31 - 1) (show nI k = nI (2 ^ 31 - 1) from absurd z (nk_neN (by omega))) (by omega) (by omega)) (by omega)) h15) (fun _ => ?_)
    refine nk_iload_n (i := 3) dX2_nearest_18 rfl rfl ?_
    refine nk_ldc qX2_96 dX2_nearest_19 ?_
    refine nk_icmpne (tgt := 30) dX2_nearest_21 (by decide) (fun _ => ?_) (fun h21 => by first | exact absurd (nk_neN (by omega)) h21 | exact absurd h21 (nk_neN (by omega)))
    refine nk_iload_n (i := 2) dX2_nearest_30 rfl rfl ?_
    refine nk_iload_n (i := 1) dX2_nearest_31 rfl rfl ?_
    refine nk_isub dX2_nearest_32 ?_
    refine nk_iload_n (i := 1) dX2_nearest_33 rfl rfl ?_
    refine nk_iload_n (i := 3) dX2_nearest_34 rfl rfl ?_
    refine nk_isub dX2_nearest_35 ?_
    refine nk_icmpge (tgt := 43) dX2_nearest_36 (by decide) (fun h36 => ?_) (fun h36 => ?_)
    · skip
      refine nk_iload_n (i := 3) dX2_nearest_43 rfl rfl ?_
      refine nk_ireturn dX2_nearest_44 rfl ?_
      first
      | exact ⟨rfl, rfl⟩
    · skip
      refine nk_iload_n (i := 2) dX2_nearest_39 rfl rfl ?_
      refine nk_goto (tgt := 44) dX2_nearest_40 (by decide) ?_
      refine nk_ireturn dX2_nearest_44 rfl ?_
      first
      | exact ⟨rfl, rfl⟩
  · rw [if_neg c, if_neg c, if_neg c]
    have b1 : ∀ x, sp_abv (gm f) (nk_tp b) k = some x → x < 2 ^ 31 := nk_up_b (by omega)
    have b2 : ∀ x, nk_dn (gm f) k = some x → x < 2 ^ 31 := nk_dn_b (by omega)
    cases hu : sp_abv (gm f) (nk_tp b) k with
    | none =>
      refine nk_iload_n (i := 2) dX2_nearest_12 rfl rfl ?_
      refine nk_ldc qX2_96 dX2_nearest_13 ?_
      refine nk_icmpeq (tgt := 24) dX2_nearest_15 (by decide) (fun _ => ?_) (fun h15 => by first | exact absurd (rfl) h15 | exact absurd h15 (rfl))
      refine nk_iload_n (i := 2) dX2_nearest_24 rfl rfl ?_
      refine nk_iload_n (i := 3) dX2_nearest_25 rfl rfl ?_
      refine nk_cSi kX2_110 (s_X2_eitherOf) dX2_nearest_26 rfl rfl (by decide) (Nat.le_of_ble_eq_true rfl) ?_
      refine nk_ireturn dX2_nearest_29 rfl ?_
      exact ⟨congrArg (fun z => some (Value.int z)) (if_pos (show nk_rN none = -1000000 from rfl)), rfl⟩
    | some u =>
      have u1 := nk_up_lt (show nk_up (gm f) (k + 1) (nk_tp b - (k + 1)) = some u from hu)
      cases hd : nk_dn (gm f) k with
      | none =>
        refine nk_iload_n (i := 2) dX2_nearest_12 rfl rfl ?_
        refine nk_ldc qX2_96 dX2_nearest_13 ?_
        refine nk_icmpeq (tgt := 24) dX2_nearest_15 (by decide) (fun h15 => by first | exact absurd h15 (nk_neN (by omega)) | exact absurd (nk_neN (by omega)) h15) (fun _ => ?_)
        refine nk_iload_n (i := 3) dX2_nearest_18 rfl rfl ?_
        refine nk_ldc qX2_96 dX2_nearest_19 ?_
        refine nk_icmpne (tgt := 30) dX2_nearest_21 (by decide) (fun h21 => by first | exact absurd h21 (show ¬ ¬ (-1000000 : Int32) = -1000000 from fun z => z rfl) | exact absurd (show ¬ ¬ (-1000000 : Int32) = -1000000 from fun z => z rfl) h21) (fun _ => ?_)
        refine nk_iload_n (i := 2) dX2_nearest_24 rfl rfl ?_
        refine nk_iload_n (i := 3) dX2_nearest_25 rfl rfl ?_
        refine nk_cSi kX2_110 (s_X2_eitherOf) dX2_nearest_26 rfl rfl (by decide) (Nat.le_of_ble_eq_true rfl) ?_
        refine nk_ireturn dX2_nearest_29 rfl ?_
        exact ⟨congrArg (fun z => some (Value.int z)) (if_neg (show ¬ nk_rN (some u) = -1000000 from nk_neN (by omega))), rfl⟩
      | some d =>
        have d1 := nk_dn_lt hd
        refine nk_iload_n (i := 2) dX2_nearest_12 rfl rfl ?_
        refine nk_ldc qX2_96 dX2_nearest_13 ?_
        refine nk_icmpeq (tgt := 24) dX2_nearest_15 (by decide) (fun h15 => by first | exact absurd h15 (nk_neN (by omega)) | exact absurd (nk_neN (by omega)) h15) (fun _ => ?_)
        refine nk_iload_n (i := 3) dX2_nearest_18 rfl rfl ?_
        refine nk_ldc qX2_96 dX2_nearest_19 ?_
        refine nk_icmpne (tgt := 30) dX2_nearest_21 (by decide) (fun _ => ?_) (fun h21 => by first | exact absurd (nk_neN (by omega)) h21 | exact absurd h21 (nk_neN (by omega)))
        refine nk_iload_n (i := 2) dX2_nearest_30 rfl rfl ?_
        refine nk_iload_n (i := 1) dX2_nearest_31 rfl rfl ?_
        refine nk_isub dX2_nearest_32 ?_
        refine nk_top (y := nI (u - k)) (pk_sub (by omega)) ?_
        refine nk_iload_n (i := 1) dX2_nearest_33 rfl rfl ?_
        refine nk_iload_n (i := 3) dX2_nearest_34 rfl rfl ?_
        refine nk_isub dX2_nearest_35 ?_
        refine nk_top (y := nI (k - d)) (pk_sub (by omega)) ?_
        refine nk_icmpge (tgt := 43) dX2_nearest_36 (by decide) (fun h36 => ?_) (fun h36 => ?_)
        · skip
          refine nk_iload_n (i := 3) dX2_nearest_43 rfl rfl ?_
          refine nk_ireturn dX2_nearest_44 rfl ?_
          first
          | (have h36 := nk_nleI h36 (by omega) (by omega)
             exact ⟨by show _ = some (Value.int (nk_rN (if k - d ≤ u - k then some d else some u))); rw [if_neg (by omega)], rfl⟩)
          | (have h36 := nk_leI h36 (by omega) (by omega)
             exact ⟨by show _ = some (Value.int (nk_rN (if k - d ≤ u - k then some d else some u))); rw [if_pos (by omega)], rfl⟩)
        · skip
          refine nk_iload_n (i := 2) dX2_nearest_39 rfl rfl ?_
          refine nk_goto (tgt := 44) dX2_nearest_40 (by decide) ?_
          refine nk_ireturn dX2_nearest_44 rfl ?_
          first
          | (have h36 := nk_nleI h36 (by omega) (by omega)
             exact ⟨by show _ = some (Value.int (nk_rN (if k - d ≤ u - k then some d else some u))); rw [if_neg (by omega)], rfl⟩)
          | (have h36 := nk_leI h36 (by omega) (by omega)
             exact ⟨by show _ = some (Value.int (nk_rN (if k - d ≤ u - k then some d else some u))); rw [if_pos (by omega)], rfl⟩)
set_option maxRecDepth 20000 in
theorem l_keyAt2 {G : nk_EG} {H : nk_AH} {q w j b : Nat} {κ : Int32} {f : Nat → Int32} (hk : cK H q w j κ b f) (hb2 : 2 ≤ b) (hb10 : b ≤ 10) {k left v : Nat} {hh : Int32} (hl : left < fb_ct (bt (f v)) 32) : ∀ (n : Nat) (i : Nat) (h1 : i ≤ left) (h2 : left < i + n), nk_J G mX2_keyAt 3 (nk_ri (nI (v * 32) + sp_lo (it_r (f v) left)) H) 0 0 37 [some (.ref q), some (.int (nI k)), some (.int (nI left)), some (.int (nI v)), some (.int (it_r (f v) i)), some (.int hh), some (.int (nI i))] [] H := by
  intro n
  induction n with
  | zero => intro i h1 h2; omega
  | succ n ih =>
    intro i h1 h2
    have hc32 := fb_ct_le (bt (f v)) 32
    refine nk_iload dX2_keyAt_37 rfl ?_
    refine nk_iload_n (i := 2) dX2_keyAt_39 rfl rfl ?_
    refine nk_icmpge (tgt := 56) dX2_keyAt_40 (by decide) (fun h40 => ?_) (fun h40 => ?_)
    · skip
      refine nk_iload_n (i := 3) dX2_keyAt_56 rfl rfl ?_
      refine nk_bipush (v := 32) dX2_keyAt_57 (by decide) ?_
      refine nk_imul dX2_keyAt_59 ?_
      refine nk_top (y := nI (v * 32)) (nk_x32 v) ?_
      refine nk_iload dX2_keyAt_60 rfl ?_
      refine nk_cSi kX2_93 (s_X3_leastOf) dX2_keyAt_62 rfl rfl (by decide) (Nat.le_of_ble_eq_true rfl) ?_
      refine nk_iadd dX2_keyAt_65 ?_
      refine nk_ireturn dX2_keyAt_66 rfl ?_
      have e : i = left := Nat.le_antisymm h1 (nk_leI h40 (by omega) (by omega))
      exact ⟨by rw [e], rfl⟩
    · skip
      have hi := nk_nleI (a := left) h40 (by omega) (by omega)
      refine nk_iload dX2_keyAt_43 rfl ?_
      refine nk_cSi kX2_116 (s_X3_withoutLeast) dX2_keyAt_45 rfl rfl (by decide) (Nat.le_of_ble_eq_true rfl) ?_
      refine nk_istoreT dX2_keyAt_48 (by decide) ?_
      refine nk_iincT dX2_keyAt_50 rfl (nk_i1 i) (by decide) ?_
      refine nk_goto (tgt := 37) dX2_keyAt_53 (by decide) ?_
      exact ih (i + 1) (by omega) (by omega)
set_option maxRecDepth 20000 in
theorem l_keyAt {G : nk_EG} {H : nk_AH} {q w j b : Nat} {κ : Int32} {f : Nat → Int32} (hk : cK H q w j κ b f) (hb2 : 2 ≤ b) (hb10 : b ≤ 10) (hz : gz f b) {k : Nat} (hk31 : k < 2 ^ 31) : ∀ (n : Nat) (v : Nat) (l4 l5 l6 : Option Value) (h1 : v ≤ nk_wm b) (h2 : nk_wm b < v + n) (h3 : fb_ct (gm f) (32 * v) ≤ k), nk_J G mX2_keyAt 3 (nk_ri (nk_rN (sp_it (gm f) (nk_tp b) k)) H) 0 0 4 [some (.ref q), some (.int (nI k)), some (.int (nI (k - fb_ct (gm f) (32 * v)))), some (.int (nI v)), l4, l5, l6] [] H := by
  intro n
  induction n with
  | zero => intro v l4 l5 l6 h1 h2 h3; omega
  | succ n ih =>
    intro v l4 l5 l6 h1 h2 h3
    have hwm := wm_f b hb10 hb2
    refine nk_iload_n (i := 3) dX2_keyAt_4 rfl rfl ?_
    refine nk_aload_n (i := 0) dX2_keyAt_5 rfl rfl ?_
    refine nk_getf fX2_39 dX2_keyAt_6 hk.1 rfl ?_
    refine nk_alen 0 rfl dX2_keyAt_9 hk.2 rfl ?_
    refine nk_top (y := nI (nk_wm b)) (nk_len _) ?_
    refine nk_icmpge (tgt := 78) dX2_keyAt_10 (by decide) (fun h10 => ?_) (fun h10 => ?_)
    · skip
      have hv := nk_leI (a := nk_wm b) h10 (by omega) (by omega)
      have e : v = nk_wm b := Nat.le_antisymm h1 hv
      have hz2 := gz_ct hz (n := 32 * nk_wm b) (by omega) (by omega)
      have hno : sp_it (gm f) (nk_tp b) k = none := sp_it_no (by rw [hz2, ← e]; exact h3)
      refine nk_ldc qX2_96 dX2_keyAt_78 ?_
      refine nk_ireturn dX2_keyAt_80 rfl ?_
      exact ⟨by rw [hno]; rfl, rfl⟩
    · skip
      have hv := nk_nleI (a := nk_wm b) h10 (by omega) (by omega)
      have hs := gm_ct f v (t := 32) (Nat.le_refl _)
      rw [show 32 * v + 32 = 32 * (v + 1) by omega] at hs
      have hc32 := fb_ct_le (bt (f v)) 32
      refine nk_aload_n (i := 0) dX2_keyAt_13 rfl rfl ?_
      refine nk_getf fX2_39 dX2_keyAt_14 hk.1 rfl ?_
      refine nk_iload_n (i := 3) dX2_keyAt_17 rfl rfl ?_
      refine nk_ialdN (j := v) dX2_keyAt_18 hk.2 (rfl) (by omega) (by omega) ?_
      refine nk_istoreT dX2_keyAt_19 (by decide) ?_
      refine nk_iload dX2_keyAt_21 rfl ?_
      refine nk_cSi kX2_84 (s_J6_bitCount_0f7a4) dX2_keyAt_23 rfl rfl (by decide) (Nat.le_of_ble_eq_true rfl) ?_
      refine nk_istoreT dX2_keyAt_26 (by decide) ?_
      refine nk_iload_n (i := 2) dX2_keyAt_28 rfl rfl ?_
      refine nk_iload dX2_keyAt_29 rfl ?_
      refine nk_icmpge (tgt := 67) dX2_keyAt_31 (by decide) (fun h31 => ?_) (fun h31 => ?_)
      · skip
        have h31 := nk_leI h31 (by omega) (by omega)
        refine nk_iload_n (i := 2) dX2_keyAt_67 rfl rfl ?_
        refine nk_iload dX2_keyAt_68 rfl ?_
        refine nk_isub dX2_keyAt_70 ?_
        refine nk_top (y := nI (k - fb_ct (gm f) (32 * (v + 1)))) (by rw [show nI (k - fb_ct (gm f) (32 * v)) - nI (fb_ct (bt (f v)) 32) = nI (k - fb_ct (gm f) (32 * v) - fb_ct (bt (f v)) 32) from pk_sub h31, hs]; congr 1; omega) ?_
        refine nk_istore_nT (i := 2) dX2_keyAt_71 rfl (by decide) ?_
        refine nk_iincT dX2_keyAt_72 rfl (nk_i1 v) (by decide) ?_
        refine nk_goto (tgt := 4) dX2_keyAt_75 (by decide) ?_
        exact ih (v + 1) _ _ _ (by omega) (by omega) (by omega)
      · skip
        have h31 := nk_nleI h31 (by omega) (by omega)
        obtain ⟨t, t1, t2, t3, t4⟩ := it_r_lo h31
        refine nk_iconst (v := 0) dX2_keyAt_34 (by decide) ?_
        refine nk_istoreT dX2_keyAt_35 (by decide) ?_
        have hct := gm_ct f v (t := t) (by omega)
        have hg : gm f (32 * v + t) = true := by rw [gm_w t1]; exact t2
        have hlt : 32 * v + t < nk_tp b := by
          rcases Nat.lt_or_ge (32 * v + t) (nk_tp b) with z | z
          · exact z
          · rw [hz _ z (by omega)] at hg; cases hg
        rw [sp_it_eq hg hlt (by omega), show nk_rN (some (32 * v + t)) = nI (v * 32) + sp_lo (it_r (f v) (k - fb_ct (gm f) (32 * v))) by rw [t4, nk_w32]; rfl]
        exact l_keyAt2 hk hb2 hb10 h31 (k - fb_ct (gm f) (32 * v) + 1) 0 (Nat.zero_le _) (by omega)
set_option maxRecDepth 20000 in
theorem s_X2_keyAt {G : nk_EG} {H : nk_AH} {q w j b : Nat} {κ : Int32} {f : Nat → Int32} (hk : cK H q w j κ b f) (hb2 : 2 ≤ b) (hb10 : b ≤ 10) (hz : gz f b) {k : Nat} (hk31 : k < 2 ^ 31) : nk_Si G mX2_keyAt 3 [.ref q, .int (nI k)] H (nk_rN (sp_it (gm f) (nk_tp b) k)) H := by
  refine nk_S.of (by decide +kernel) (Nat.le_of_ble_eq_true rfl) rfl ?_
  have hwm := wm_f b hb10 hb2
  refine nk_iload_n (i := 1) dX2_keyAt_0 rfl rfl ?_
  refine nk_istore_nT (i := 2) dX2_keyAt_1 rfl (by decide) ?_
  refine nk_iconst (v := 0) dX2_keyAt_2 (by decide) ?_
  refine nk_istore_nT (i := 3) dX2_keyAt_3 rfl (by decide) ?_
  exact l_keyAt hk hb2 hb10 hz hk31 (nk_wm b + 1) 0 _ _ _ (by omega) (by omega) (Nat.zero_le _)
set_option maxRecDepth 20000 in
theorem l_widest {G : nk_EG} {H : nk_AH} {q w j b : Nat} {κ : Int32} {f : Nat → Int32} (hk : cK H q w j κ b f) (hb2 : 2 ≤ b) (hb10 : b ≤ 10) (hz : gz f b) {R : Nat × Option Nat} : ∀ (n : Nat) (key i most : Nat) (l : Option Nat) (l5 : Option Value) (h1 : key < nk_tp b) (h2 : nk_tp b < key + n + 1) (h3 : most ≤ 1024) (h4 : i ≤ key) (hT : sp_gp (gm f) (nk_tp b) n most l key = R), nk_J G mX2_widestFrom 5 (nk_ri (nk_rN R.2) H) 0 0 13 [some (.ref q), some (.int (nk_rN l)), some (.int (nI most)), some (.int (nI key)), some (.int (nI i)), l5] [] H := by
  intro n
  induction n with
  | zero => intro key i most l l5 h1 h2 h3 h4 hT; omega
  | succ n ih =>
    intro key i most l l5 h1 h2 h3 h4 hT
    have hwm := wm_f b hb10 hb2
    refine nk_iload dX2_widestFrom_13 rfl ?_
    refine nk_aload_n (i := 0) dX2_widestFrom_15 rfl rfl ?_
    refine nk_getf fX2_18 dX2_widestFrom_16 hk.1 rfl ?_
    refine nk_icmpge (tgt := 68) dX2_widestFrom_19 (by decide) (fun h19 => by first | exact absurd h19 (fun z => absurd (nk_leI (a := nk_tp b) z (by omega) (by omega)) (by omega)) | exact absurd (fun z => absurd (nk_leI (a := nk_tp b) z (by omega) (by omega)) (by omega)) h19) (fun _ => ?_)
    refine nk_iload_n (i := 3) dX2_widestFrom_22 rfl rfl ?_
    refine nk_ldc qX2_96 dX2_widestFrom_23 ?_
    refine nk_icmpeq (tgt := 68) dX2_widestFrom_25 (by decide) (fun h25 => by first | exact absurd h25 (nk_neN (by omega)) | exact absurd (nk_neN (by omega)) h25) (fun _ => ?_)
    refine nk_aload_n (i := 0) dX2_widestFrom_28 rfl rfl ?_
    refine nk_iload_n (i := 3) dX2_widestFrom_29 rfl rfl ?_
    refine nk_iconst (v := 1) dX2_widestFrom_30 (by decide) ?_
    refine nk_iadd dX2_widestFrom_31 ?_
    refine nk_top (y := nI (key + 1)) (nI_1 key) ?_
    refine nk_cVi kX2_100 (s_X2_from hk hb2 hb10 hz (k := key + 1) (by omega)) dX2_widestFrom_32 hk.1 rfl rfl (by decide) (Nat.le_of_ble_eq_true rfl) ?_
    cases hu : sp_abv (gm f) (nk_tp b) key with
    | none =>
      rw [sp_gp_none hu] at hT
      subst hT
      have hu : nk_up (gm f) (key + 1) (nk_tp b - (key + 1)) = none := hu
      rw [hu]
      refine nk_istoreT dX2_widestFrom_35 (by decide) ?_
      refine nk_iload dX2_widestFrom_37 rfl ?_
      refine nk_ldc qX2_96 dX2_widestFrom_39 ?_
      refine nk_icmpeq (tgt := 59) dX2_widestFrom_41 (by decide) (fun _ => ?_) (fun h41 => by first | exact absurd (rfl) h41 | exact absurd h41 (rfl))
      refine nk_iload dX2_widestFrom_59 rfl ?_
      refine nk_istore_nT (i := 3) dX2_widestFrom_61 rfl (by decide) ?_
      refine nk_iincT dX2_widestFrom_62 rfl (nk_i1 i) (by decide) ?_
      refine nk_goto (tgt := 13) dX2_widestFrom_65 (by decide) ?_
      by_cases c : nI (nk_tp b) ≤ nI (i + 1)
      · skip
        refine nk_iload dX2_widestFrom_13 rfl ?_
        refine nk_aload_n (i := 0) dX2_widestFrom_15 rfl rfl ?_
        refine nk_getf fX2_18 dX2_widestFrom_16 hk.1 rfl ?_
        refine nk_icmpge (tgt := 68) dX2_widestFrom_19 (by decide) (fun _ => ?_) (fun h19 => by first | exact absurd (c) h19 | exact absurd h19 (c))
        refine nk_iload_n (i := 1) dX2_widestFrom_68 rfl rfl ?_
        refine nk_ireturn dX2_widestFrom_69 rfl ?_
        exact ⟨rfl, rfl⟩
      · skip
        refine nk_iload dX2_widestFrom_13 rfl ?_
        refine nk_aload_n (i := 0) dX2_widestFrom_15 rfl rfl ?_
        refine nk_getf fX2_18 dX2_widestFrom_16 hk.1 rfl ?_
        refine nk_icmpge (tgt := 68) dX2_widestFrom_19 (by decide) (fun h19 => by first | exact absurd h19 (c) | exact absurd (c) h19) (fun _ => ?_)
        refine nk_iload_n (i := 3) dX2_widestFrom_22 rfl rfl ?_
        refine nk_ldc qX2_96 dX2_widestFrom_23 ?_
        refine nk_icmpeq (tgt := 68) dX2_widestFrom_25 (by decide) (fun _ => ?_) (fun h25 => by first | exact absurd (rfl) h25 | exact absurd h25 (rfl))
        refine nk_iload_n (i := 1) dX2_widestFrom_68 rfl rfl ?_
        refine nk_ireturn dX2_widestFrom_69 rfl ?_
        exact ⟨rfl, rfl⟩
    | some u =>
      have hu1 := nk_up_lt (show nk_up (gm f) (key + 1) (nk_tp b - (key + 1)) = some u from hu)
      have hu2 : nk_up (gm f) (key + 1) (nk_tp b - (key + 1)) = some u := hu
      rw [hu2]
      refine nk_istoreT dX2_widestFrom_35 (by decide) ?_
      refine nk_iload dX2_widestFrom_37 rfl ?_
      refine nk_ldc qX2_96 dX2_widestFrom_39 ?_
      refine nk_icmpeq (tgt := 59) dX2_widestFrom_41 (by decide) (fun h41 => by first | exact absurd h41 (nk_neN (by omega)) | exact absurd (nk_neN (by omega)) h41) (fun _ => ?_)
      refine nk_iload dX2_widestFrom_44 rfl ?_
      refine nk_iload_n (i := 3) dX2_widestFrom_46 rfl rfl ?_
      refine nk_isub dX2_widestFrom_47 ?_
      refine nk_top (y := nI (u - key)) (pk_sub (by omega)) ?_
      refine nk_iload_n (i := 2) dX2_widestFrom_48 rfl rfl ?_
      refine nk_icmple (tgt := 59) dX2_widestFrom_49 (by decide) (fun h49 => ?_) (fun h49 => ?_)
      · skip
        refine nk_iload dX2_widestFrom_59 rfl ?_
        refine nk_istore_nT (i := 3) dX2_widestFrom_61 rfl (by decide) ?_
        refine nk_iincT dX2_widestFrom_62 rfl (nk_i1 i) (by decide) ?_
        refine nk_goto (tgt := 13) dX2_widestFrom_65 (by decide) ?_
        first
        | (have c1 := nk_leI h49 (by omega) (by omega)
           rw [sp_gp_no hu (by omega)] at hT
           exact ih u (i + 1) most l _ (by omega) (by omega) (by omega) (by omega) hT)
        | (have c1 := nk_nleI h49 (by omega) (by omega)
           rw [sp_gp_yes hu (by omega)] at hT
           exact ih u (i + 1) (u - key) (some key) _ (by omega) (by omega) (by omega) (by omega) hT)
      · skip
        refine nk_iload_n (i := 3) dX2_widestFrom_52 rfl rfl ?_
        refine nk_istore_nT (i := 1) dX2_widestFrom_53 rfl (by decide) ?_
        refine nk_iload dX2_widestFrom_54 rfl ?_
        refine nk_iload_n (i := 3) dX2_widestFrom_56 rfl rfl ?_
        refine nk_isub dX2_widestFrom_57 ?_
        refine nk_top (y := nI (u - key)) (pk_sub (by omega)) ?_
        refine nk_istore_nT (i := 2) dX2_widestFrom_58 rfl (by decide) ?_
        refine nk_iload dX2_widestFrom_59 rfl ?_
        refine nk_istore_nT (i := 3) dX2_widestFrom_61 rfl (by decide) ?_
        refine nk_iincT dX2_widestFrom_62 rfl (nk_i1 i) (by decide) ?_
        refine nk_goto (tgt := 13) dX2_widestFrom_65 (by decide) ?_
        first
        | (have c1 := nk_leI h49 (by omega) (by omega)
           rw [sp_gp_no hu (by omega)] at hT
           exact ih u (i + 1) most l _ (by omega) (by omega) (by omega) (by omega) hT)
        | (have c1 := nk_nleI h49 (by omega) (by omega)
           rw [sp_gp_yes hu (by omega)] at hT
           exact ih u (i + 1) (u - key) (some key) _ (by omega) (by omega) (by omega) (by omega) hT)
set_option maxRecDepth 20000 in
theorem s_X2_widestFrom {G : nk_EG} {H : nk_AH} {q w j b : Nat} {κ : Int32} {f : Nat → Int32} (hk : cK H q w j κ b f) (hb2 : 2 ≤ b) (hb10 : b ≤ 10) (hz : gz f b) : nk_Si G mX2_widestFrom 5 [.ref q] H (nk_rN (sp_gp0 (gm f) (nk_tp b)).2) H := by
  refine nk_S.of (by decide +kernel) (Nat.le_of_ble_eq_true rfl) rfl ?_
  have hwm := wm_f b hb10 hb2
  refine nk_ldc qX2_96 dX2_widestFrom_0 ?_
  refine nk_istore_nT (i := 1) dX2_widestFrom_2 rfl (by decide) ?_
  refine nk_iconst (v := 0) dX2_widestFrom_3 (by decide) ?_
  refine nk_istore_nT (i := 2) dX2_widestFrom_4 rfl (by decide) ?_
  refine nk_aload_n (i := 0) dX2_widestFrom_5 rfl rfl ?_
  refine nk_cVi kX2_106 (s_X2_least hk hb2 hb10 hz) dX2_widestFrom_6 hk.1 rfl rfl (by decide) (Nat.le_of_ble_eq_true rfl) ?_
  cases hu : nk_up (gm f) 0 (nk_tp b) with
  | none =>
    have e : (sp_gp0 (gm f) (nk_tp b)).2 = none := by unfold sp_gp0; rw [hu]
    rw [e]
    refine nk_istore_nT (i := 3) dX2_widestFrom_9 rfl (by decide) ?_
    refine nk_iconst (v := 0) dX2_widestFrom_10 (by decide) ?_
    refine nk_istoreT dX2_widestFrom_11 (by decide) ?_
    refine nk_iload dX2_widestFrom_13 rfl ?_
    refine nk_aload_n (i := 0) dX2_widestFrom_15 rfl rfl ?_
    refine nk_getf fX2_18 dX2_widestFrom_16 hk.1 rfl ?_
    refine nk_icmpge (tgt := 68) dX2_widestFrom_19 (by decide) (fun h19 => by first | exact absurd h19 (fun z => absurd (nk_leI (b := 0) z (by omega) (by omega)) (by omega)) | exact absurd (fun z => absurd (nk_leI (b := 0) z (by omega) (by omega)) (by omega)) h19) (fun _ => ?_)
    refine nk_iload_n (i := 3) dX2_widestFrom_22 rfl rfl ?_
    refine nk_ldc qX2_96 dX2_widestFrom_23 ?_
    refine nk_icmpeq (tgt := 68) dX2_widestFrom_25 (by decide) (fun _ => ?_) (fun h25 => by first | exact absurd (rfl) h25 | exact absurd h25 (rfl))
    refine nk_iload_n (i := 1) dX2_widestFrom_68 rfl rfl ?_
    refine nk_ireturn dX2_widestFrom_69 rfl ?_
    exact ⟨rfl, rfl⟩
  | some k =>
    have hk1 := nk_up_lt hu
    have e : sp_gp0 (gm f) (nk_tp b) = sp_gp (gm f) (nk_tp b) (nk_tp b) 0 none k := by unfold sp_gp0; rw [hu]
    rw [e]
    refine nk_istore_nT (i := 3) dX2_widestFrom_9 rfl (by decide) ?_
    refine nk_iconst (v := 0) dX2_widestFrom_10 (by decide) ?_
    refine nk_istoreT dX2_widestFrom_11 (by decide) ?_
    exact l_widest hk hb2 hb10 hz (nk_tp b) k 0 0 none _ (by omega) (by omega) (by omega) (by omega) rfl
set_option maxRecDepth 20000 in
theorem s_X2_hasWord {G : nk_EG} {H : nk_AH} {q w j b : Nat} {κ : Int32} {f : Nat → Int32} (hk : cK H q w j κ b f) (hb2 : 2 ≤ b) (hb10 : b ≤ 10) {l i : Int32} : nk_Si G mX2_hasWord 2 [.ref q, .int l, .int i] H (if (l = 0 ∧ 0 ≤ i.toInt ∧ i.toInt < nk_wm b) ∨ (l = 1 ∧ i = 0 ∧ 1 < nk_wm b) then 1 else 0) H := by
  refine nk_S.of (by decide +kernel) (Nat.le_of_ble_eq_true rfl) rfl ?_
  have hwm := wm_f b hb10 hb2
  refine nk_iload_n (i := 1) dX2_hasWord_0 rfl rfl ?_
  refine nk_ifne (tgt := 19) dX2_hasWord_1 (by decide) (fun h1 => ?_) (fun h1 => ?_)
  · skip
    refine nk_iload_n (i := 1) dX2_hasWord_19 rfl rfl ?_
    refine nk_iconst (v := 1) dX2_hasWord_20 (by decide) ?_
    refine nk_icmpne (tgt := 41) dX2_hasWord_21 (by decide) (fun h21 => ?_) (fun h21 => ?_)
    · skip
      refine nk_iconst (v := 0) dX2_hasWord_41 (by decide) ?_
      refine nk_zreturn dX2_hasWord_42 rfl rfl ?_
      first
      | (refine ⟨nk_v1 (Or.inl ⟨h1, ?_⟩), rfl⟩
         have h16 := Classical.not_not.mp h16
         omega)
      | (refine ⟨nk_v1 (Or.inr ⟨h21, h34, ?_⟩), rfl⟩
         exact nk_nleI (b := 1) h30 (by omega) (by omega))
      | (refine ⟨nk_v0 (fun z => ?_), rfl⟩
         rcases z with ⟨z1, z2, z3⟩ | ⟨z1, z2, z3⟩
         · first
           | exact h1 z1
           | exact h16 ⟨z2, by omega⟩
         · first
           | exact h21 z1
           | exact absurd (nk_leI (b := 1) h30 (by omega) (by omega)) (by omega)
           | exact h34 z2)
    · skip
      refine nk_aload_n (i := 0) dX2_hasWord_24 rfl rfl ?_
      refine nk_getf fX2_39 dX2_hasWord_25 hk.1 rfl ?_
      refine nk_alen 0 rfl dX2_hasWord_28 hk.2 rfl ?_
      refine nk_top (y := nI (nk_wm b)) (nk_len _) ?_
      refine nk_iconst (v := 1) dX2_hasWord_29 (by decide) ?_
      refine nk_icmple (tgt := 41) dX2_hasWord_30 (by decide) (fun h30 => ?_) (fun h30 => ?_)
      · skip
        refine nk_iconst (v := 0) dX2_hasWord_41 (by decide) ?_
        refine nk_zreturn dX2_hasWord_42 rfl rfl ?_
        first
        | (refine ⟨nk_v1 (Or.inl ⟨h1, ?_⟩), rfl⟩
           have h16 := Classical.not_not.mp h16
           omega)
        | (refine ⟨nk_v1 (Or.inr ⟨h21, h34, ?_⟩), rfl⟩
           exact nk_nleI (b := 1) h30 (by omega) (by omega))
        | (refine ⟨nk_v0 (fun z => ?_), rfl⟩
           rcases z with ⟨z1, z2, z3⟩ | ⟨z1, z2, z3⟩
           · first
             | exact h1 z1
             | exact h16 ⟨z2, by omega⟩
           · first
             | exact h21 z1
             | exact absurd (nk_leI (b := 1) h30 (by omega) (by omega)) (by omega)
             | exact h34 z2)
      · skip
        refine nk_iload_n (i := 2) dX2_hasWord_33 rfl rfl ?_
        refine nk_ifne (tgt := 41) dX2_hasWord_34 (by decide) (fun h34 => ?_) (fun h34 => ?_)
        · skip
          refine nk_iconst (v := 0) dX2_hasWord_41 (by decide) ?_
          refine nk_zreturn dX2_hasWord_42 rfl rfl ?_
          first
          | (refine ⟨nk_v1 (Or.inl ⟨h1, ?_⟩), rfl⟩
             have h16 := Classical.not_not.mp h16
             omega)
          | (refine ⟨nk_v1 (Or.inr ⟨h21, h34, ?_⟩), rfl⟩
             exact nk_nleI (b := 1) h30 (by omega) (by omega))
          | (refine ⟨nk_v0 (fun z => ?_), rfl⟩
             rcases z with ⟨z1, z2, z3⟩ | ⟨z1, z2, z3⟩
             · first
               | exact h1 z1
               | exact h16 ⟨z2, by omega⟩
             · first
               | exact h21 z1
               | exact absurd (nk_leI (b := 1) h30 (by omega) (by omega)) (by omega)
               | exact h34 z2)
        · skip
          refine nk_iconst (v := 1) dX2_hasWord_37 (by decide) ?_
          refine nk_goto (tgt := 42) dX2_hasWord_38 (by decide) ?_
          refine nk_zreturn dX2_hasWord_42 rfl rfl ?_
          first
          | (refine ⟨nk_v1 (Or.inl ⟨h1, ?_⟩), rfl⟩
             have h16 := Classical.not_not.mp h16
             omega)
          | (refine ⟨nk_v1 (Or.inr ⟨h21, h34, ?_⟩), rfl⟩
             exact nk_nleI (b := 1) h30 (by omega) (by omega))
          | (refine ⟨nk_v0 (fun z => ?_), rfl⟩
             rcases z with ⟨z1, z2, z3⟩ | ⟨z1, z2, z3⟩
             · first
               | exact h1 z1
               | exact h16 ⟨z2, by omega⟩
             · first
               | exact h21 z1
               | exact absurd (nk_leI (b := 1) h30 (by omega) (by omega)) (by omega)
               | exact h34 z2)
  · skip
    refine nk_iload_n (i := 2) dX2_hasWord_4 rfl rfl ?_
    refine nk_iconst (v := 0) dX2_hasWord_5 (by decide) ?_
    refine nk_aload_n (i := 0) dX2_hasWord_6 rfl rfl ?_
    refine nk_getf fX2_39 dX2_hasWord_7 hk.1 rfl ?_
    refine nk_alen 0 rfl dX2_hasWord_10 hk.2 rfl ?_
    refine nk_top (y := nI (nk_wm b)) (nk_len _) ?_
    refine nk_iconst (v := 1) dX2_hasWord_11 (by decide) ?_
    refine nk_isub dX2_hasWord_12 ?_
    refine nk_cNi kX2_52 (s_X7_within) dX2_hasWord_13 rfl rfl (by decide) (Nat.le_of_ble_eq_true rfl) ?_
    refine nk_ifne (tgt := 37) dX2_hasWord_16 (by decide) (fun h16 => ?_) (fun h16 => ?_)
    · skip
      rw [nk_b0, nk_m1 (by omega), show (0 : Int32).toInt = 0 from rfl] at h16
      refine nk_iconst (v := 1) dX2_hasWord_37 (by decide) ?_
      refine nk_goto (tgt := 42) dX2_hasWord_38 (by decide) ?_
      refine nk_zreturn dX2_hasWord_42 rfl rfl ?_
      first
      | (refine ⟨nk_v1 (Or.inl ⟨h1, ?_⟩), rfl⟩
         have h16 := Classical.not_not.mp h16
         omega)
      | (refine ⟨nk_v1 (Or.inr ⟨h21, h34, ?_⟩), rfl⟩
         exact nk_nleI (b := 1) h30 (by omega) (by omega))
      | (refine ⟨nk_v0 (fun z => ?_), rfl⟩
         rcases z with ⟨z1, z2, z3⟩ | ⟨z1, z2, z3⟩
         · first
           | exact h1 z1
           | exact h16 ⟨z2, by omega⟩
         · first
           | exact h21 z1
           | exact absurd (nk_leI (b := 1) h30 (by omega) (by omega)) (by omega)
           | exact h34 z2)
    · skip
      rw [nk_b0, nk_m1 (by omega), show (0 : Int32).toInt = 0 from rfl] at h16
      refine nk_iload_n (i := 1) dX2_hasWord_19 rfl rfl ?_
      refine nk_iconst (v := 1) dX2_hasWord_20 (by decide) ?_
      refine nk_icmpne (tgt := 41) dX2_hasWord_21 (by decide) (fun h21 => ?_) (fun h21 => ?_)
      · skip
        refine nk_iconst (v := 0) dX2_hasWord_41 (by decide) ?_
        refine nk_zreturn dX2_hasWord_42 rfl rfl ?_
        first
        | (refine ⟨nk_v1 (Or.inl ⟨h1, ?_⟩), rfl⟩
           have h16 := Classical.not_not.mp h16
           omega)
        | (refine ⟨nk_v1 (Or.inr ⟨h21, h34, ?_⟩), rfl⟩
           exact nk_nleI (b := 1) h30 (by omega) (by omega))
        | (refine ⟨nk_v0 (fun z => ?_), rfl⟩
           rcases z with ⟨z1, z2, z3⟩ | ⟨z1, z2, z3⟩
           · first
             | exact h1 z1
             | exact h16 ⟨z2, by omega⟩
           · first
             | exact h21 z1
             | exact absurd (nk_leI (b := 1) h30 (by omega) (by omega)) (by omega)
             | exact h34 z2)
      · skip
        refine nk_aload_n (i := 0) dX2_hasWord_24 rfl rfl ?_
        refine nk_getf fX2_39 dX2_hasWord_25 hk.1 rfl ?_
        refine nk_alen 0 rfl dX2_hasWord_28 hk.2 rfl ?_
        refine nk_top (y := nI (nk_wm b)) (nk_len _) ?_
        refine nk_iconst (v := 1) dX2_hasWord_29 (by decide) ?_
        refine nk_icmple (tgt := 41) dX2_hasWord_30 (by decide) (fun h30 => ?_) (fun h30 => ?_)
        · skip
          refine nk_iconst (v := 0) dX2_hasWord_41 (by decide) ?_
          refine nk_zreturn dX2_hasWord_42 rfl rfl ?_
          first
          | (refine ⟨nk_v1 (Or.inl ⟨h1, ?_⟩), rfl⟩
             have h16 := Classical.not_not.mp h16
             omega)
          | (refine ⟨nk_v1 (Or.inr ⟨h21, h34, ?_⟩), rfl⟩
             exact nk_nleI (b := 1) h30 (by omega) (by omega))
          | (refine ⟨nk_v0 (fun z => ?_), rfl⟩
             rcases z with ⟨z1, z2, z3⟩ | ⟨z1, z2, z3⟩
             · first
               | exact h1 z1
               | exact h16 ⟨z2, by omega⟩
             · first
               | exact h21 z1
               | exact absurd (nk_leI (b := 1) h30 (by omega) (by omega)) (by omega)
               | exact h34 z2)
        · skip
          refine nk_iload_n (i := 2) dX2_hasWord_33 rfl rfl ?_
          refine nk_ifne (tgt := 41) dX2_hasWord_34 (by decide) (fun h34 => ?_) (fun h34 => ?_)
          · skip
            refine nk_iconst (v := 0) dX2_hasWord_41 (by decide) ?_
            refine nk_zreturn dX2_hasWord_42 rfl rfl ?_
            first
            | (refine ⟨nk_v1 (Or.inl ⟨h1, ?_⟩), rfl⟩
               have h16 := Classical.not_not.mp h16
               omega)
            | (refine ⟨nk_v1 (Or.inr ⟨h21, h34, ?_⟩), rfl⟩
               exact nk_nleI (b := 1) h30 (by omega) (by omega))
            | (refine ⟨nk_v0 (fun z => ?_), rfl⟩
               rcases z with ⟨z1, z2, z3⟩ | ⟨z1, z2, z3⟩
               · first
                 | exact h1 z1
                 | exact h16 ⟨z2, by omega⟩
               · first
                 | exact h21 z1
                 | exact absurd (nk_leI (b := 1) h30 (by omega) (by omega)) (by omega)
                 | exact h34 z2)
          · skip
            refine nk_iconst (v := 1) dX2_hasWord_37 (by decide) ?_
            refine nk_goto (tgt := 42) dX2_hasWord_38 (by decide) ?_
            refine nk_zreturn dX2_hasWord_42 rfl rfl ?_
            first
            | (refine ⟨nk_v1 (Or.inl ⟨h1, ?_⟩), rfl⟩
               have h16 := Classical.not_not.mp h16
               omega)
            | (refine ⟨nk_v1 (Or.inr ⟨h21, h34, ?_⟩), rfl⟩
               exact nk_nleI (b := 1) h30 (by omega) (by omega))
            | (refine ⟨nk_v0 (fun z => ?_), rfl⟩
               rcases z with ⟨z1, z2, z3⟩ | ⟨z1, z2, z3⟩
               · first
                 | exact h1 z1
                 | exact h16 ⟨z2, by omega⟩
               · first
                 | exact h21 z1
                 | exact absurd (nk_leI (b := 1) h30 (by omega) (by omega)) (by omega)
                 | exact h34 z2)
set_option maxRecDepth 20000 in
theorem l_upperWord {G : nk_EG} {H : nk_AH} {q w j b : Nat} {κ : Int32} {f : Nat → Int32} (hk : cK H q w j κ b f) (hb2 : 2 ≤ b) (hb10 : b ≤ 10) : ∀ (n : Nat) (v : Nat) (h1 : v ≤ nk_wm b) (h2 : nk_wm b < v + n), nk_J G mX2_upperWord 1 (nk_ri (sp_uw f (nk_wm b)) H) 0 0 4 [some (.ref q), some (.int (sp_uw f v)), some (.int (nI v))] [] H := by
  intro n
  induction n with
  | zero => intro v h1 h2; omega
  | succ n ih =>
    intro v h1 h2
    have hwm := wm_f b hb10 hb2
    refine nk_iload_n (i := 2) dX2_upperWord_4 rfl rfl ?_
    refine nk_aload_n (i := 0) dX2_upperWord_5 rfl rfl ?_
    refine nk_getf fX2_39 dX2_upperWord_6 hk.1 rfl ?_
    refine nk_alen 0 rfl dX2_upperWord_9 hk.2 rfl ?_
    refine nk_top (y := nI (nk_wm b)) (nk_len _) ?_
    refine nk_icmpge (tgt := 38) dX2_upperWord_10 (by decide) (fun h10 => ?_) (fun h10 => ?_)
    · skip
      refine nk_iload_n (i := 1) dX2_upperWord_38 rfl rfl ?_
      refine nk_ireturn dX2_upperWord_39 rfl ?_
      have e : v = nk_wm b := Nat.le_antisymm h1 (nk_leI h10 (by omega) (by omega))
      exact ⟨by rw [e], rfl⟩
    · skip
      have hv := nk_nleI (a := nk_wm b) h10 (by omega) (by omega)
      refine nk_iload_n (i := 1) dX2_upperWord_13 rfl rfl ?_
      refine nk_aload_n (i := 0) dX2_upperWord_14 rfl rfl ?_
      refine nk_getf fX2_39 dX2_upperWord_15 hk.1 rfl ?_
      refine nk_iload_n (i := 2) dX2_upperWord_18 rfl rfl ?_
      refine nk_ialdN (j := v) dX2_upperWord_19 hk.2 (rfl) (by omega) (by omega) ?_
      refine nk_ifne (tgt := 27) dX2_upperWord_20 (by decide) (fun h20 => ?_) (fun h20 => ?_)
      · skip
        have e : sp_uw f v ||| (1 <<< (nI v &&& 31)) = sp_uw f (v + 1) := by rw [sp_uw, if_neg h20]; rfl
        refine nk_iconst (v := 1) dX2_upperWord_27 (by decide) ?_
        refine nk_iload_n (i := 2) dX2_upperWord_28 rfl rfl ?_
        refine nk_ishl dX2_upperWord_29 ?_
        refine nk_ior dX2_upperWord_30 ?_
        refine nk_top (y := sp_uw f (v + 1)) (e) ?_
        refine nk_istore_nT (i := 1) dX2_upperWord_31 rfl (by decide) ?_
        refine nk_iincT dX2_upperWord_32 rfl (nk_i1 v) (by decide) ?_
        refine nk_goto (tgt := 4) dX2_upperWord_35 (by decide) ?_
        exact ih (v + 1) (by omega) (by omega)
      · skip
        have e : sp_uw f v ||| 0 = sp_uw f (v + 1) := by rw [sp_uw, if_pos h20]
        refine nk_iconst (v := 0) dX2_upperWord_23 (by decide) ?_
        refine nk_goto (tgt := 30) dX2_upperWord_24 (by decide) ?_
        refine nk_ior dX2_upperWord_30 ?_
        refine nk_top (y := sp_uw f (v + 1)) (e) ?_
        refine nk_istore_nT (i := 1) dX2_upperWord_31 rfl (by decide) ?_
        refine nk_iincT dX2_upperWord_32 rfl (nk_i1 v) (by decide) ?_
        refine nk_goto (tgt := 4) dX2_upperWord_35 (by decide) ?_
        exact ih (v + 1) (by omega) (by omega)
set_option maxRecDepth 20000 in
theorem s_X2_upperWord {G : nk_EG} {H : nk_AH} {q w j b : Nat} {κ : Int32} {f : Nat → Int32} (hk : cK H q w j κ b f) (hb2 : 2 ≤ b) (hb10 : b ≤ 10) : nk_Si G mX2_upperWord 1 [.ref q] H (sp_uw f (nk_wm b)) H := by
  refine nk_S.of (by decide +kernel) (Nat.le_of_ble_eq_true rfl) rfl ?_
  have hwm := wm_f b hb10 hb2
  refine nk_iconst (v := 0) dX2_upperWord_0 (by decide) ?_
  refine nk_istore_nT (i := 1) dX2_upperWord_1 rfl (by decide) ?_
  refine nk_iconst (v := 0) dX2_upperWord_2 (by decide) ?_
  refine nk_istore_nT (i := 2) dX2_upperWord_3 rfl (by decide) ?_
  exact l_upperWord hk hb2 hb10 (nk_wm b + 1) 0 (by omega) (by omega)
set_option maxRecDepth 20000 in
theorem s_X2_wordAt {G : nk_EG} {H : nk_AH} {q w j b : Nat} {κ : Int32} {f : Nat → Int32} (hk : cK H q w j κ b f) (hb2 : 2 ≤ b) (hb10 : b ≤ 10) {l i : Int32} (hw : (l = 0 ∧ 0 ≤ i.toInt ∧ i.toInt < nk_wm b) ∨ (l = 1 ∧ i = 0 ∧ 1 < nk_wm b)) : nk_Si G mX2_wordAt 2 [.ref q, .int l, .int i] H (if l = 0 then f (sp_n i) else sp_uw f (nk_wm b)) H := by
  refine nk_S.of (by decide +kernel) (Nat.le_of_ble_eq_true rfl) rfl ?_
  have hwm := wm_f b hb10 hb2
  refine nk_iload_n (i := 1) dX2_wordAt_0 rfl rfl ?_
  refine nk_ifne (tgt := 13) dX2_wordAt_1 (by decide) (fun h1 => ?_) (fun h1 => ?_)
  · skip
    refine nk_aload_n (i := 0) dX2_wordAt_13 rfl rfl ?_
    refine nk_cVi kX2_119 (s_X2_upperWord hk hb2 hb10) dX2_wordAt_14 hk.1 rfl rfl (by decide) (Nat.le_of_ble_eq_true rfl) ?_
    refine nk_ireturn dX2_wordAt_17 rfl ?_
    first
    | exact ⟨by rw [if_pos h1, sp_n_nI (by omega)], rfl⟩
    | exact ⟨by rw [if_neg h1], rfl⟩
  · skip
    have hi : 0 ≤ i.toInt ∧ i.toInt < nk_wm b := by
      rcases hw with z | z
      · exact z.2
      · rw [z.1] at h1; exact absurd h1 (by decide)
    obtain ⟨v, hv, rfl⟩ := nk_getN hi
    refine nk_aload_n (i := 0) dX2_wordAt_4 rfl rfl ?_
    refine nk_getf fX2_39 dX2_wordAt_5 hk.1 rfl ?_
    refine nk_iload_n (i := 2) dX2_wordAt_8 rfl rfl ?_
    refine nk_ialdN (j := v) dX2_wordAt_9 hk.2 (rfl) (by omega) (by omega) ?_
    refine nk_goto (tgt := 17) dX2_wordAt_10 (by decide) ?_
    refine nk_ireturn dX2_wordAt_17 rfl ?_
    first
    | exact ⟨by rw [if_pos h1, sp_n_nI (by omega)], rfl⟩
    | exact ⟨by rw [if_neg h1], rfl⟩
set_option maxRecDepth 20000 in
theorem s_X2_isHigh {G : nk_EG} {H : nk_AH} {q w j b : Nat} {κ : Int32} {f : Nat → Int32} (hk : cK H q w j κ b f) (hb2 : 2 ≤ b) (hb10 : b ≤ 10) {x : Int32} : nk_Si G mX2_isHigh 2 [.ref q, .int x] H (if 0 ≤ x.toInt ∧ x.toInt < (2 ^ (b - b / 2) : Nat) then 1 else 0) H := by
  refine nk_S.of (by decide +kernel) (Nat.le_of_ble_eq_true rfl) rfl ?_
  have hwm := wm_f b hb10 hb2
  have h2h := nk_2h hb10
  have h2l := nk_2l hb10
  have hp1 : 1 ≤ 2 ^ (b - b / 2) := Nat.one_le_two_pow
  refine nk_iload_n (i := 1) dX2_isHigh_0 rfl rfl ?_
  refine nk_iconst (v := 0) dX2_isHigh_1 (by decide) ?_
  refine nk_iconst (v := 1) dX2_isHigh_2 (by decide) ?_
  refine nk_aload_n (i := 0) dX2_isHigh_3 rfl rfl ?_
  refine nk_getf fX2_33 dX2_isHigh_4 hk.1 rfl ?_
  refine nk_ishl dX2_isHigh_7 ?_
  refine nk_top (y := nI (2 ^ (b - b / 2))) (nk_sh1 (by omega)) ?_
  refine nk_iconst (v := 1) dX2_isHigh_8 (by decide) ?_
  refine nk_isub dX2_isHigh_9 ?_
  refine nk_cNi kX2_52 (s_X7_within) dX2_isHigh_10 rfl rfl (by decide) (Nat.le_of_ble_eq_true rfl) ?_
  refine nk_zreturn dX2_isHigh_13 rfl (nk_bn _) ?_
  exact ⟨nk_ifc (by rw [nk_m1 (by omega), show (0 : Int32).toInt = 0 from rfl]; omega), rfl⟩
set_option maxRecDepth 20000 in
theorem s_X2_clusterAt {G : nk_EG} {H : nk_AH} {q w j b : Nat} {κ : Int32} {f : Nat → Int32} (hk : cK H q w j κ b f) (hb2 : 2 ≤ b) (hb10 : b ≤ 10) (hz : gz f b) {x : Nat} (hx : x < 2 ^ (b - b / 2)) : nk_Si G mX2_clusterAt 2 [.ref q, .int (nI x), .int (nk_rN (nk_up (gm f) 0 (nk_tp b)))] H (sp_c (gm f) b x) H := by
  refine nk_S.of (by decide +kernel) (Nat.le_of_ble_eq_true rfl) rfl ?_
  have hwm := wm_f b hb10 hb2
  have hxl : x * 2 ^ (b / 2) < nk_tp b := by
    have := nk_hl (b := b) (n := 0) hx (Nat.two_pow_pos _)
    omega
  have hxw : x * 2 ^ (b / 2) / 32 < nk_wm b := by omega
  refine nk_iload_n (i := 1) dX2_clusterAt_0 rfl rfl ?_
  refine nk_aload_n (i := 0) dX2_clusterAt_1 rfl rfl ?_
  refine nk_getf fX2_27 dX2_clusterAt_2 hk.1 rfl ?_
  refine nk_ishl dX2_clusterAt_5 ?_
  refine nk_top (y := nI (x * 2 ^ (b / 2))) (nk_shN (by omega) (by omega)) ?_
  refine nk_bipush (v := 32) dX2_clusterAt_6 (by decide) ?_
  refine nk_idiv dX2_clusterAt_8 (by decide) ?_
  refine nk_top (y := nI (x * 2 ^ (b / 2) / 32)) (nk_d32 (by omega)) ?_
  refine nk_istore_nT (i := 3) dX2_clusterAt_9 rfl (by decide) ?_
  cases hu : nk_up (gm f) 0 (nk_tp b) with
  | none =>
    refine nk_iload_n (i := 2) dX2_clusterAt_10 rfl rfl ?_
    refine nk_ldc qX2_96 dX2_clusterAt_11 ?_
    refine nk_icmpeq (tgt := 28) dX2_clusterAt_13 (by decide) (fun _ => ?_) (fun h13 => by first | exact absurd (rfl) h13 | exact absurd h13 (rfl))
    refine nk_iconst (v := 0) dX2_clusterAt_28 (by decide) ?_
    refine nk_istoreT dX2_clusterAt_29 (by decide) ?_
    refine nk_iload dX2_clusterAt_31 rfl ?_
    refine nk_ifeq (tgt := 48) dX2_clusterAt_33 (by decide) (fun _ => ?_) (fun h33 => by first | exact absurd (rfl) h33 | exact absurd h33 (rfl))
    refine nk_aload_n (i := 0) dX2_clusterAt_48 rfl rfl ?_
    refine nk_getf fX2_39 dX2_clusterAt_49 hk.1 rfl ?_
    refine nk_iload_n (i := 3) dX2_clusterAt_52 rfl rfl ?_
    refine nk_ialdN (j := x * 2 ^ (b / 2) / 32) dX2_clusterAt_53 hk.2 (rfl) (by omega) (by omega) ?_
    refine nk_aload_n (i := 0) dX2_clusterAt_54 rfl rfl ?_
    refine nk_getf fX2_27 dX2_clusterAt_55 hk.1 rfl ?_
    refine nk_iload_n (i := 1) dX2_clusterAt_58 rfl rfl ?_
    refine nk_cSi kX2_122 (s_X3_clusterIn (by omega) (by omega)) dX2_clusterAt_59 rfl rfl (by decide) (Nat.le_of_ble_eq_true rfl) ?_
    refine nk_ireturn dX2_clusterAt_62 rfl ?_
    exact ⟨by rw [cl_eq (t := nk_tp b) (by omega) (cl_none (fun k hk => by rw [hu] at hk; cases hk))], rfl⟩
  | some k =>
    have hk1 := nk_up_lt hu
    refine nk_iload_n (i := 2) dX2_clusterAt_10 rfl rfl ?_
    refine nk_ldc qX2_96 dX2_clusterAt_11 ?_
    refine nk_icmpeq (tgt := 28) dX2_clusterAt_13 (by decide) (fun h13 => by first | exact absurd h13 (nk_neN (by omega)) | exact absurd (nk_neN (by omega)) h13) (fun _ => ?_)
    refine nk_iload_n (i := 2) dX2_clusterAt_16 rfl rfl ?_
    refine nk_bipush (v := 32) dX2_clusterAt_17 (by decide) ?_
    refine nk_idiv dX2_clusterAt_19 (by decide) ?_
    refine nk_top (y := nI (k / 32)) (nk_d32 (by omega)) ?_
    refine nk_iload_n (i := 3) dX2_clusterAt_20 rfl rfl ?_
    refine nk_icmpne (tgt := 28) dX2_clusterAt_21 (by decide) (fun h21 => ?_) (fun h21 => ?_)
    · skip
      have h21 : ¬ k / 32 = x * 2 ^ (b / 2) / 32 := fun z => h21 (by rw [z])
      refine nk_iconst (v := 0) dX2_clusterAt_28 (by decide) ?_
      refine nk_istoreT dX2_clusterAt_29 (by decide) ?_
      refine nk_iload dX2_clusterAt_31 rfl ?_
      refine nk_ifeq (tgt := 48) dX2_clusterAt_33 (by decide) (fun _ => ?_) (fun h33 => by first | exact absurd (rfl) h33 | exact absurd h33 (rfl))
      refine nk_aload_n (i := 0) dX2_clusterAt_48 rfl rfl ?_
      refine nk_getf fX2_39 dX2_clusterAt_49 hk.1 rfl ?_
      refine nk_iload_n (i := 3) dX2_clusterAt_52 rfl rfl ?_
      refine nk_ialdN (j := x * 2 ^ (b / 2) / 32) dX2_clusterAt_53 hk.2 (rfl) (by omega) (by omega) ?_
      refine nk_aload_n (i := 0) dX2_clusterAt_54 rfl rfl ?_
      refine nk_getf fX2_27 dX2_clusterAt_55 hk.1 rfl ?_
      refine nk_iload_n (i := 1) dX2_clusterAt_58 rfl rfl ?_
      refine nk_cSi kX2_122 (s_X3_clusterIn (by omega) (by omega)) dX2_clusterAt_59 rfl rfl (by decide) (Nat.le_of_ble_eq_true rfl) ?_
      refine nk_ireturn dX2_clusterAt_62 rfl ?_
      exact ⟨by rw [cl_eq (t := nk_tp b) (by omega) (cl_none (fun k2 hk2 => by rw [hu] at hk2; cases hk2; exact h21))], rfl⟩
    · skip
      have h21 : k / 32 = x * 2 ^ (b / 2) / 32 := nk_eqI h21 (by omega) (by omega)
      refine nk_iconst (v := 1) dX2_clusterAt_24 (by decide) ?_
      refine nk_goto (tgt := 29) dX2_clusterAt_25 (by decide) ?_
      refine nk_istoreT dX2_clusterAt_29 (by decide) ?_
      refine nk_iload dX2_clusterAt_31 rfl ?_
      refine nk_ifeq (tgt := 48) dX2_clusterAt_33 (by decide) (fun h33 => by first | exact absurd h33 (by decide) | exact absurd (by decide) h33) (fun _ => ?_)
      refine nk_aload_n (i := 0) dX2_clusterAt_36 rfl rfl ?_
      refine nk_getf fX2_39 dX2_clusterAt_37 hk.1 rfl ?_
      refine nk_iload_n (i := 3) dX2_clusterAt_40 rfl rfl ?_
      refine nk_ialdN (j := x * 2 ^ (b / 2) / 32) dX2_clusterAt_41 hk.2 (rfl) (by omega) (by omega) ?_
      refine nk_cSi kX2_116 (s_X3_withoutLeast) dX2_clusterAt_42 rfl rfl (by decide) (Nat.le_of_ble_eq_true rfl) ?_
      refine nk_goto (tgt := 54) dX2_clusterAt_45 (by decide) ?_
      refine nk_aload_n (i := 0) dX2_clusterAt_54 rfl rfl ?_
      refine nk_getf fX2_27 dX2_clusterAt_55 hk.1 rfl ?_
      refine nk_iload_n (i := 1) dX2_clusterAt_58 rfl rfl ?_
      refine nk_cSi kX2_122 (s_X3_clusterIn (by omega) (by omega)) dX2_clusterAt_59 rfl rfl (by decide) (Nat.le_of_ble_eq_true rfl) ?_
      refine nk_ireturn dX2_clusterAt_62 rfl ?_
      exact ⟨by rw [cl_eq (t := nk_tp b) (by omega) (cl_rest hu h21)], rfl⟩
set_option maxRecDepth 20000 in
theorem l_rootSummary {G : nk_EG} {H : nk_AH} {q w j b : Nat} {κ : Int32} {f : Nat → Int32} (hk : cK H q w j κ b f) (hb2 : 2 ≤ b) (hb10 : b ≤ 10) (hz : gz f b) : ∀ (n : Nat) (x : Nat) (h1 : x ≤ 2 ^ (b - b / 2)) (h2 : 2 ^ (b - b / 2) < x + n), nk_J G mX2_rootSummary 5 (nk_ri (sp_s (gm f) b) H) 0 0 9 [some (.ref q), some (.int (nk_rN (nk_up (gm f) 0 (nk_tp b)))), some (.int (sp_sm (gm f) b x)), some (.int (nI x))] [] H := by
  intro n
  induction n with
  | zero => intro x h1 h2; omega
  | succ n ih =>
    intro x h1 h2
    have hwm := wm_f b hb10 hb2
    have h2h := nk_2h hb10
    have h2l := nk_2l hb10
    have hp1 : 1 ≤ 2 ^ (b - b / 2) := Nat.one_le_two_pow
    refine nk_iload_n (i := 3) dX2_rootSummary_9 rfl rfl ?_
    refine nk_iconst (v := 1) dX2_rootSummary_10 (by decide) ?_
    refine nk_aload_n (i := 0) dX2_rootSummary_11 rfl rfl ?_
    refine nk_getf fX2_33 dX2_rootSummary_12 hk.1 rfl ?_
    refine nk_ishl dX2_rootSummary_15 ?_
    refine nk_top (y := nI (2 ^ (b - b / 2))) (nk_sh1 (by omega)) ?_
    refine nk_icmpge (tgt := 44) dX2_rootSummary_16 (by decide) (fun h16 => ?_) (fun h16 => ?_)
    · skip
      refine nk_iload_n (i := 2) dX2_rootSummary_44 rfl rfl ?_
      refine nk_ireturn dX2_rootSummary_45 rfl ?_
      have e : x = 2 ^ (b - b / 2) := Nat.le_antisymm h1 (nk_leI h16 (by omega) (by omega))
      exact ⟨by rw [e], rfl⟩
    · skip
      have hx := nk_nleI (a := 2 ^ (b - b / 2)) h16 (by omega) (by omega)
      refine nk_iload_n (i := 2) dX2_rootSummary_19 rfl rfl ?_
      refine nk_aload_n (i := 0) dX2_rootSummary_20 rfl rfl ?_
      refine nk_iload_n (i := 3) dX2_rootSummary_21 rfl rfl ?_
      refine nk_iload_n (i := 1) dX2_rootSummary_22 rfl rfl ?_
      refine nk_cVi kX2_125 (s_X2_clusterAt hk hb2 hb10 hz (x := x) hx) dX2_rootSummary_23 hk.1 rfl rfl (by decide) (Nat.le_of_ble_eq_true rfl) ?_
      refine nk_ifne (tgt := 33) dX2_rootSummary_26 (by decide) (fun h26 => ?_) (fun h26 => ?_)
      · skip
        have e : sp_sm (gm f) b x ||| (1 <<< (nI x &&& 31)) = sp_sm (gm f) b (x + 1) := by rw [sp_sm, if_neg h26]; rfl
        refine nk_iconst (v := 1) dX2_rootSummary_33 (by decide) ?_
        refine nk_iload_n (i := 3) dX2_rootSummary_34 rfl rfl ?_
        refine nk_ishl dX2_rootSummary_35 ?_
        refine nk_ior dX2_rootSummary_36 ?_
        refine nk_top (y := sp_sm (gm f) b (x + 1)) (e) ?_
        refine nk_istore_nT (i := 2) dX2_rootSummary_37 rfl (by decide) ?_
        refine nk_iincT dX2_rootSummary_38 rfl (nk_i1 x) (by decide) ?_
        refine nk_goto (tgt := 9) dX2_rootSummary_41 (by decide) ?_
        exact ih (x + 1) (by omega) (by omega)
      · skip
        have e : sp_sm (gm f) b x ||| 0 = sp_sm (gm f) b (x + 1) := by rw [sp_sm, if_pos h26]
        refine nk_iconst (v := 0) dX2_rootSummary_29 (by decide) ?_
        refine nk_goto (tgt := 36) dX2_rootSummary_30 (by decide) ?_
        refine nk_ior dX2_rootSummary_36 ?_
        refine nk_top (y := sp_sm (gm f) b (x + 1)) (e) ?_
        refine nk_istore_nT (i := 2) dX2_rootSummary_37 rfl (by decide) ?_
        refine nk_iincT dX2_rootSummary_38 rfl (nk_i1 x) (by decide) ?_
        refine nk_goto (tgt := 9) dX2_rootSummary_41 (by decide) ?_
        exact ih (x + 1) (by omega) (by omega)
set_option maxRecDepth 20000 in
theorem s_X2_rootSummary {G : nk_EG} {H : nk_AH} {q w j b : Nat} {κ : Int32} {f : Nat → Int32} (hk : cK H q w j κ b f) (hb2 : 2 ≤ b) (hb10 : b ≤ 10) (hz : gz f b) : nk_Si G mX2_rootSummary 5 [.ref q] H (sp_s (gm f) b) H := by
  refine nk_S.of (by decide +kernel) (Nat.le_of_ble_eq_true rfl) rfl ?_
  have hwm := wm_f b hb10 hb2
  have h2h := nk_2h hb10
  have h2l := nk_2l hb10
  have hp1 : 1 ≤ 2 ^ (b - b / 2) := Nat.one_le_two_pow
  refine nk_aload_n (i := 0) dX2_rootSummary_0 rfl rfl ?_
  refine nk_cVi kX2_106 (s_X2_least hk hb2 hb10 hz) dX2_rootSummary_1 hk.1 rfl rfl (by decide) (Nat.le_of_ble_eq_true rfl) ?_
  refine nk_istore_nT (i := 1) dX2_rootSummary_4 rfl (by decide) ?_
  refine nk_iconst (v := 0) dX2_rootSummary_5 (by decide) ?_
  refine nk_istore_nT (i := 2) dX2_rootSummary_6 rfl (by decide) ?_
  refine nk_iconst (v := 0) dX2_rootSummary_7 (by decide) ?_
  refine nk_istore_nT (i := 3) dX2_rootSummary_8 rfl (by decide) ?_
  exact l_rootSummary hk hb2 hb10 hz (2 ^ (b - b / 2) + 1) 0 (Nat.zero_le _) (by omega)
set_option maxRecDepth 20000 in
theorem l_rootNodes {G : nk_EG} {H : nk_AH} {q w j b : Nat} {κ : Int32} {f : Nat → Int32} (hk : cK H q w j κ b f) (hb2 : 2 ≤ b) (hb10 : b ≤ 10) (hz : gz f b) : ∀ (n : Nat) (x : Nat) (h1 : x ≤ 2 ^ (b - b / 2)) (h2 : 2 ^ (b - b / 2) < x + n), nk_J G mX2_rootNodes 8 (nk_ri (pf_acc (1 + pf_nd (sp_s (gm f) b) (nI (b - b / 2))) (fun x => pf_nd (sp_c (gm f) b x) (nI (b / 2))) (2 ^ (b - b / 2))) H) 0 0 29 [some (.ref q), some (.int (nk_rN (nk_up (gm f) 0 (nk_tp b)))), some (.int (pf_acc (1 + pf_nd (sp_s (gm f) b) (nI (b - b / 2))) (fun x => pf_nd (sp_c (gm f) b x) (nI (b / 2))) x)), some (.int (nI x))] [] H := by
  intro n
  induction n with
  | zero => intro x h1 h2; omega
  | succ n ih =>
    intro x h1 h2
    have hwm := wm_f b hb10 hb2
    have h2h := nk_2h hb10
    have h2l := nk_2l hb10
    have hp1 : 1 ≤ 2 ^ (b - b / 2) := Nat.one_le_two_pow
    refine nk_iload_n (i := 3) dX2_rootNodes_29 rfl rfl ?_
    refine nk_iconst (v := 1) dX2_rootNodes_30 (by decide) ?_
    refine nk_aload_n (i := 0) dX2_rootNodes_31 rfl rfl ?_
    refine nk_getf fX2_33 dX2_rootNodes_32 hk.1 rfl ?_
    refine nk_ishl dX2_rootNodes_35 ?_
    refine nk_top (y := nI (2 ^ (b - b / 2))) (nk_sh1 (by omega)) ?_
    refine nk_icmpge (tgt := 61) dX2_rootNodes_36 (by decide) (fun h36 => ?_) (fun h36 => ?_)
    · skip
      refine nk_iload_n (i := 2) dX2_rootNodes_61 rfl rfl ?_
      refine nk_ireturn dX2_rootNodes_62 rfl ?_
      have e : x = 2 ^ (b - b / 2) := Nat.le_antisymm h1 (nk_leI h36 (by omega) (by omega))
      exact ⟨by rw [e], rfl⟩
    · skip
      have hx := nk_nleI (a := 2 ^ (b - b / 2)) h36 (by omega) (by omega)
      refine nk_iload_n (i := 2) dX2_rootNodes_39 rfl rfl ?_
      refine nk_aload_n (i := 0) dX2_rootNodes_40 rfl rfl ?_
      refine nk_iload_n (i := 3) dX2_rootNodes_41 rfl rfl ?_
      refine nk_iload_n (i := 1) dX2_rootNodes_42 rfl rfl ?_
      refine nk_cVi kX2_125 (s_X2_clusterAt hk hb2 hb10 hz (x := x) hx) dX2_rootNodes_43 hk.1 rfl rfl (by omega) (Nat.le_of_ble_eq_true rfl) ?_
      refine nk_aload_n (i := 0) dX2_rootNodes_46 rfl rfl ?_
      refine nk_getf fX2_27 dX2_rootNodes_47 hk.1 rfl ?_
      refine nk_cNi kX2_131 (s_X3_nodesOf (b / 2) (by omega) (by omega) _) dX2_rootNodes_50 rfl rfl (by omega) (Nat.le_of_ble_eq_true rfl) ?_
      refine nk_iadd dX2_rootNodes_53 ?_
      refine nk_istore_nT (i := 2) dX2_rootNodes_54 rfl (by decide) ?_
      refine nk_iincT dX2_rootNodes_55 rfl (nk_i1 x) (by decide) ?_
      refine nk_goto (tgt := 29) dX2_rootNodes_58 (by decide) ?_
      exact ih (x + 1) (by omega) (by omega)
set_option maxRecDepth 20000 in
theorem s_X2_rootNodes {G : nk_EG} {H : nk_AH} {q w j b : Nat} {κ : Int32} {f : Nat → Int32} (hk : cK H q w j κ b f) (hb2 : 2 ≤ b) (hb10 : b ≤ 10) (hz : gz f b) : nk_Si G mX2_rootNodes 8 [.ref q] H (sp_nodes (gm f) b) H := by
  refine nk_S.of (by decide +kernel) (Nat.le_of_ble_eq_true rfl) rfl ?_
  have hwm := wm_f b hb10 hb2
  have h2h := nk_2h hb10
  have h2l := nk_2l hb10
  have hp1 : 1 ≤ 2 ^ (b - b / 2) := Nat.one_le_two_pow
  have hno := sp_none hz (by omega)
  refine nk_aload_n (i := 0) dX2_rootNodes_0 rfl rfl ?_
  refine nk_cVi kX2_106 (s_X2_least hk hb2 hb10 hz) dX2_rootNodes_1 hk.1 rfl rfl (by omega) (Nat.le_of_ble_eq_true rfl) ?_
  refine nk_istore_nT (i := 1) dX2_rootNodes_4 rfl (by decide) ?_
  refine nk_iload_n (i := 1) dX2_rootNodes_5 rfl rfl ?_
  refine nk_ldc qX2_96 dX2_rootNodes_6 ?_
  refine nk_icmpne (tgt := 13) dX2_rootNodes_8 (by decide) (fun h8 => ?_) (fun h8 => ?_)
  · skip
    rw [nk_rN_none (nk_up_b (by omega)), hno] at h8
    unfold sp_nodes
    rw [if_neg h8]
    refine nk_iconst (v := 1) dX2_rootNodes_13 (by decide) ?_
    refine nk_aload_n (i := 0) dX2_rootNodes_14 rfl rfl ?_
    refine nk_cVi kX2_128 (s_X2_rootSummary hk hb2 hb10 hz) dX2_rootNodes_15 hk.1 rfl rfl (by omega) (Nat.le_of_ble_eq_true rfl) ?_
    refine nk_aload_n (i := 0) dX2_rootNodes_18 rfl rfl ?_
    refine nk_getf fX2_33 dX2_rootNodes_19 hk.1 rfl ?_
    refine nk_cNi kX2_131 (s_X3_nodesOf (b - b / 2) (by omega) (by omega) _) dX2_rootNodes_22 rfl rfl (by omega) (Nat.le_of_ble_eq_true rfl) ?_
    refine nk_iadd dX2_rootNodes_25 ?_
    refine nk_istore_nT (i := 2) dX2_rootNodes_26 rfl (by decide) ?_
    refine nk_iconst (v := 0) dX2_rootNodes_27 (by decide) ?_
    refine nk_istore_nT (i := 3) dX2_rootNodes_28 rfl (by decide) ?_
    exact l_rootNodes hk hb2 hb10 hz (2 ^ (b - b / 2) + 1) 0 (Nat.zero_le _) (by omega)
  · skip
    rw [nk_rN_none (nk_up_b (by omega)), hno] at h8
    refine nk_iconst (v := 0) dX2_rootNodes_11 (by decide) ?_
    refine nk_ireturn dX2_rootNodes_12 rfl ?_
    exact ⟨by unfold sp_nodes; rw [if_pos h8], rfl⟩
set_option maxRecDepth 20000 in
theorem l_rootDepth {G : nk_EG} {H : nk_AH} {q w j b : Nat} {κ : Int32} {f : Nat → Int32} (hk : cK H q w j κ b f) (hb2 : 2 ≤ b) (hb10 : b ≤ 10) (hz : gz f b) : ∀ (n : Nat) (x : Nat) (h1 : x ≤ 2 ^ (b - b / 2)) (h2 : 2 ^ (b - b / 2) < x + n), nk_J G mX2_rootDepth 8 (nk_ri (1 + pf_mxa (pf_dp (sp_s (gm f) b) (nI (b - b / 2))) (fun x => pf_dp (sp_c (gm f) b x) (nI (b / 2))) (2 ^ (b - b / 2))) H) 0 0 27 [some (.ref q), some (.int (nk_rN (nk_up (gm f) 0 (nk_tp b)))), some (.int (pf_mxa (pf_dp (sp_s (gm f) b) (nI (b - b / 2))) (fun x => pf_dp (sp_c (gm f) b x) (nI (b / 2))) x)), some (.int (nI x))] [] H := by
  intro n
  induction n with
  | zero => intro x h1 h2; omega
  | succ n ih =>
    intro x h1 h2
    have hwm := wm_f b hb10 hb2
    have h2h := nk_2h hb10
    have h2l := nk_2l hb10
    have hp1 : 1 ≤ 2 ^ (b - b / 2) := Nat.one_le_two_pow
    refine nk_iload_n (i := 3) dX2_rootDepth_27 rfl rfl ?_
    refine nk_iconst (v := 1) dX2_rootDepth_28 (by decide) ?_
    refine nk_aload_n (i := 0) dX2_rootDepth_29 rfl rfl ?_
    refine nk_getf fX2_33 dX2_rootDepth_30 hk.1 rfl ?_
    refine nk_ishl dX2_rootDepth_33 ?_
    refine nk_top (y := nI (2 ^ (b - b / 2))) (nk_sh1 (by omega)) ?_
    refine nk_icmpge (tgt := 61) dX2_rootDepth_34 (by decide) (fun h34 => ?_) (fun h34 => ?_)
    · skip
      refine nk_iconst (v := 1) dX2_rootDepth_61 (by decide) ?_
      refine nk_iload_n (i := 2) dX2_rootDepth_62 rfl rfl ?_
      refine nk_iadd dX2_rootDepth_63 ?_
      refine nk_ireturn dX2_rootDepth_64 rfl ?_
      have e : x = 2 ^ (b - b / 2) := Nat.le_antisymm h1 (nk_leI h34 (by omega) (by omega))
      exact ⟨by rw [e], rfl⟩
    · skip
      have hx := nk_nleI (a := 2 ^ (b - b / 2)) h34 (by omega) (by omega)
      refine nk_iload_n (i := 2) dX2_rootDepth_37 rfl rfl ?_
      refine nk_aload_n (i := 0) dX2_rootDepth_38 rfl rfl ?_
      refine nk_iload_n (i := 3) dX2_rootDepth_39 rfl rfl ?_
      refine nk_iload_n (i := 1) dX2_rootDepth_40 rfl rfl ?_
      refine nk_cVi kX2_125 (s_X2_clusterAt hk hb2 hb10 hz (x := x) hx) dX2_rootDepth_41 hk.1 rfl rfl (by omega) (Nat.le_of_ble_eq_true rfl) ?_
      refine nk_aload_n (i := 0) dX2_rootDepth_44 rfl rfl ?_
      refine nk_getf fX2_27 dX2_rootDepth_45 hk.1 rfl ?_
      refine nk_cNi kX2_134 (s_X3_depthOf (b / 2) (by omega) (by omega) _ (bsm_c hb10)) dX2_rootDepth_48 rfl rfl (by omega) (Nat.le_of_ble_eq_true rfl) ?_
      refine nk_cSi kX2_43 (s_J9_max_7cf53) dX2_rootDepth_51 rfl rfl (by omega) (Nat.le_of_ble_eq_true rfl) ?_
      refine nk_istore_nT (i := 2) dX2_rootDepth_54 rfl (by decide) ?_
      refine nk_iincT dX2_rootDepth_55 rfl (nk_i1 x) (by decide) ?_
      refine nk_goto (tgt := 27) dX2_rootDepth_58 (by decide) ?_
      exact ih (x + 1) (by omega) (by omega)
set_option maxRecDepth 20000 in
theorem s_X2_rootDepth {G : nk_EG} {H : nk_AH} {q w j b : Nat} {κ : Int32} {f : Nat → Int32} (hk : cK H q w j κ b f) (hb2 : 2 ≤ b) (hb10 : b ≤ 10) (hz : gz f b) : nk_Si G mX2_rootDepth 8 [.ref q] H (sp_depth (gm f) b) H := by
  refine nk_S.of (by decide +kernel) (Nat.le_of_ble_eq_true rfl) rfl ?_
  have hwm := wm_f b hb10 hb2
  have h2h := nk_2h hb10
  have h2l := nk_2l hb10
  have hp1 : 1 ≤ 2 ^ (b - b / 2) := Nat.one_le_two_pow
  have hno := sp_none hz (by omega)
  refine nk_aload_n (i := 0) dX2_rootDepth_0 rfl rfl ?_
  refine nk_cVi kX2_106 (s_X2_least hk hb2 hb10 hz) dX2_rootDepth_1 hk.1 rfl rfl (by omega) (Nat.le_of_ble_eq_true rfl) ?_
  refine nk_istore_nT (i := 1) dX2_rootDepth_4 rfl (by decide) ?_
  refine nk_iload_n (i := 1) dX2_rootDepth_5 rfl rfl ?_
  refine nk_ldc qX2_96 dX2_rootDepth_6 ?_
  refine nk_icmpne (tgt := 13) dX2_rootDepth_8 (by decide) (fun h8 => ?_) (fun h8 => ?_)
  · skip
    rw [nk_rN_none (nk_up_b (by omega)), hno] at h8
    unfold sp_depth
    rw [if_neg h8]
    refine nk_aload_n (i := 0) dX2_rootDepth_13 rfl rfl ?_
    refine nk_cVi kX2_128 (s_X2_rootSummary hk hb2 hb10 hz) dX2_rootDepth_14 hk.1 rfl rfl (by omega) (Nat.le_of_ble_eq_true rfl) ?_
    refine nk_aload_n (i := 0) dX2_rootDepth_17 rfl rfl ?_
    refine nk_getf fX2_33 dX2_rootDepth_18 hk.1 rfl ?_
    refine nk_cNi kX2_134 (s_X3_depthOf (b - b / 2) (by omega) (by omega) _ (bsm_s hb10)) dX2_rootDepth_21 rfl rfl (by omega) (Nat.le_of_ble_eq_true rfl) ?_
    refine nk_istore_nT (i := 2) dX2_rootDepth_24 rfl (by decide) ?_
    refine nk_iconst (v := 0) dX2_rootDepth_25 (by decide) ?_
    refine nk_istore_nT (i := 3) dX2_rootDepth_26 rfl (by decide) ?_
    exact l_rootDepth hk hb2 hb10 hz (2 ^ (b - b / 2) + 1) 0 (Nat.zero_le _) (by omega)
  · skip
    rw [nk_rN_none (nk_up_b (by omega)), hno] at h8
    refine nk_iconst (v := 0) dX2_rootDepth_11 (by decide) ?_
    refine nk_ireturn dX2_rootDepth_12 rfl ?_
    exact ⟨by unfold sp_depth; rw [if_pos h8], rfl⟩
set_option maxRecDepth 20000 in
theorem s_X2_rootSteps {G : nk_EG} {H : nk_AH} {q w j b : Nat} {κ : Int32} {f : Nat → Int32} (hk : cK H q w j κ b f) (hb2 : 2 ≤ b) (hb10 : b ≤ 10) (hz : gz f b) {k : Nat} (hkt : k < nk_tp b) : nk_Si G mX2_rootSteps 8 [.ref q, .int (nI k)] H (sp_stp (gm f) b k) H := by
  refine nk_S.of (by decide +kernel) (Nat.le_of_ble_eq_true rfl) rfl ?_
  have hwm := wm_f b hb10 hb2
  have h2h := nk_2h hb10
  have h2l := nk_2l hb10
  have hp1 : 1 ≤ 2 ^ (b - b / 2) := Nat.one_le_two_pow
  have hno := sp_none hz (by omega)
  have hk2 : k < 2 ^ b := by omega
  have hkl := nk_kl hk2
  have hkm := Nat.mod_lt k (Nat.two_pow_pos (b / 2))
  have hdm : k / 2 ^ (b / 2) * 2 ^ (b / 2) ≤ k := Nat.div_mul_le_self _ _
  refine nk_aload_n (i := 0) dX2_rootSteps_0 rfl rfl ?_
  refine nk_cVi kX2_106 (s_X2_least hk hb2 hb10 hz) dX2_rootSteps_1 hk.1 rfl rfl (by omega) (Nat.le_of_ble_eq_true rfl) ?_
  refine nk_istore_nT (i := 2) dX2_rootSteps_4 rfl (by decide) ?_
  refine nk_iload_n (i := 2) dX2_rootSteps_5 rfl rfl ?_
  refine nk_ldc qX2_96 dX2_rootSteps_6 ?_
  refine nk_icmpeq (tgt := 16) dX2_rootSteps_8 (by decide) (fun h8 => ?_) (fun h8 => ?_)
  · skip
    rw [nk_rN_none (nk_up_b (by omega)), hno] at h8
    refine nk_iconst (v := 1) dX2_rootSteps_16 (by decide) ?_
    refine nk_ireturn dX2_rootSteps_17 rfl ?_
    have hc : fb_ct (gm f) 1024 = 0 ∨ nI k < nk_rN (nk_up (gm f) 0 (nk_tp b)) := by
      first
      | exact Or.inl h8
      | exact Or.inr (Int32.not_le.mp h13)
    exact ⟨by unfold sp_stp; rw [if_pos hc], rfl⟩
  · skip
    rw [nk_rN_none (nk_up_b (by omega)), hno] at h8
    refine nk_iload_n (i := 1) dX2_rootSteps_11 rfl rfl ?_
    refine nk_iload_n (i := 2) dX2_rootSteps_12 rfl rfl ?_
    refine nk_icmpge (tgt := 18) dX2_rootSteps_13 (by decide) (fun h13 => ?_) (fun h13 => ?_)
    · skip
      have hc : ¬ (fb_ct (gm f) 1024 = 0 ∨ nI k < nk_rN (nk_up (gm f) 0 (nk_tp b))) := fun z => z.elim h8 (fun z => absurd z (Int32.not_lt.mpr h13))
      unfold sp_stp
      rw [if_neg hc, pf_lw_n (by omega)]
      refine nk_iload_n (i := 1) dX2_rootSteps_18 rfl rfl ?_
      refine nk_aload_n (i := 0) dX2_rootSteps_19 rfl rfl ?_
      refine nk_getf fX2_27 dX2_rootSteps_20 hk.1 rfl ?_
      refine nk_ishr dX2_rootSteps_23 ?_
      refine nk_top (y := nI (k / 2 ^ (b / 2))) (nk_srN (by omega) (by omega)) ?_
      refine nk_istore_nT (i := 3) dX2_rootSteps_24 rfl (by decide) ?_
      refine nk_iload_n (i := 1) dX2_rootSteps_25 rfl rfl ?_
      refine nk_iload_n (i := 3) dX2_rootSteps_26 rfl rfl ?_
      refine nk_aload_n (i := 0) dX2_rootSteps_27 rfl rfl ?_
      refine nk_getf fX2_27 dX2_rootSteps_28 hk.1 rfl ?_
      refine nk_ishl dX2_rootSteps_31 ?_
      refine nk_top (y := nI (k / 2 ^ (b / 2) * 2 ^ (b / 2))) (nk_shN (by omega) (by omega)) ?_
      refine nk_isub dX2_rootSteps_32 ?_
      refine nk_top (y := nI (k % 2 ^ (b / 2))) (nk_kmod) ?_
      refine nk_istoreT dX2_rootSteps_33 (by decide) ?_
      refine nk_aload_n (i := 0) dX2_rootSteps_35 rfl rfl ?_
      refine nk_iload_n (i := 3) dX2_rootSteps_36 rfl rfl ?_
      refine nk_iload_n (i := 2) dX2_rootSteps_37 rfl rfl ?_
      refine nk_cVi kX2_125 (s_X2_clusterAt hk hb2 hb10 hz (x := k / 2 ^ (b / 2)) hkl) dX2_rootSteps_38 hk.1 rfl rfl (by omega) (Nat.le_of_ble_eq_true rfl) ?_
      refine nk_istoreT dX2_rootSteps_41 (by decide) ?_
      refine nk_iload dX2_rootSteps_43 rfl ?_
      refine nk_ifeq (tgt := 72) dX2_rootSteps_45 (by decide) (fun h45 => ?_) (fun h45 => ?_)
      · skip
        refine nk_iconst (v := 1) dX2_rootSteps_72 (by decide) ?_
        refine nk_aload_n (i := 0) dX2_rootSteps_73 rfl rfl ?_
        refine nk_cVi kX2_128 (s_X2_rootSummary hk hb2 hb10 hz) dX2_rootSteps_74 hk.1 rfl rfl (by omega) (Nat.le_of_ble_eq_true rfl) ?_
        refine nk_aload_n (i := 0) dX2_rootSteps_77 rfl rfl ?_
        refine nk_getf fX2_33 dX2_rootSteps_78 hk.1 rfl ?_
        refine nk_iload_n (i := 3) dX2_rootSteps_81 rfl rfl ?_
        refine nk_cNi kX2_137 (s_X3_stepsAbove (b - b / 2) (by omega) (by omega) _ (k / 2 ^ (b / 2)) hkl) dX2_rootSteps_82 rfl rfl (by omega) (Nat.le_of_ble_eq_true rfl) ?_
        refine nk_iadd dX2_rootSteps_85 ?_
        refine nk_ireturn dX2_rootSteps_86 rfl ?_
        have c : ¬ (¬ sp_c (gm f) b (k / 2 ^ (b / 2)) = 0 ∧ nI (k % 2 ^ (b / 2)) < sp_hi (sp_c (gm f) b (k / 2 ^ (b / 2)))) := fun z => by
          first
          | exact z.1 h45
          | exact absurd z.2 (Int32.not_lt.mpr h55)
        exact ⟨by rw [if_neg c]; rfl, rfl⟩
      · skip
        refine nk_iload dX2_rootSteps_48 rfl ?_
        refine nk_cSi kX2_97 (s_X3_greatestOf) dX2_rootSteps_50 rfl rfl (by omega) (Nat.le_of_ble_eq_true rfl) ?_
        refine nk_iload dX2_rootSteps_53 rfl ?_
        refine nk_icmple (tgt := 72) dX2_rootSteps_55 (by decide) (fun h55 => ?_) (fun h55 => ?_)
        · skip
          refine nk_iconst (v := 1) dX2_rootSteps_72 (by decide) ?_
          refine nk_aload_n (i := 0) dX2_rootSteps_73 rfl rfl ?_
          refine nk_cVi kX2_128 (s_X2_rootSummary hk hb2 hb10 hz) dX2_rootSteps_74 hk.1 rfl rfl (by omega) (Nat.le_of_ble_eq_true rfl) ?_
          refine nk_aload_n (i := 0) dX2_rootSteps_77 rfl rfl ?_
          refine nk_getf fX2_33 dX2_rootSteps_78 hk.1 rfl ?_
          refine nk_iload_n (i := 3) dX2_rootSteps_81 rfl rfl ?_
          refine nk_cNi kX2_137 (s_X3_stepsAbove (b - b / 2) (by omega) (by omega) _ (k / 2 ^ (b / 2)) hkl) dX2_rootSteps_82 rfl rfl (by omega) (Nat.le_of_ble_eq_true rfl) ?_
          refine nk_iadd dX2_rootSteps_85 ?_
          refine nk_ireturn dX2_rootSteps_86 rfl ?_
          have c : ¬ (¬ sp_c (gm f) b (k / 2 ^ (b / 2)) = 0 ∧ nI (k % 2 ^ (b / 2)) < sp_hi (sp_c (gm f) b (k / 2 ^ (b / 2)))) := fun z => by
            first
            | exact z.1 h45
            | exact absurd z.2 (Int32.not_lt.mpr h55)
          exact ⟨by rw [if_neg c]; rfl, rfl⟩
        · skip
          refine nk_iconst (v := 1) dX2_rootSteps_58 (by decide) ?_
          refine nk_iload dX2_rootSteps_59 rfl ?_
          refine nk_aload_n (i := 0) dX2_rootSteps_61 rfl rfl ?_
          refine nk_getf fX2_27 dX2_rootSteps_62 hk.1 rfl ?_
          refine nk_iload dX2_rootSteps_65 rfl ?_
          refine nk_cNi kX2_137 (s_X3_stepsAbove (b / 2) (by omega) (by omega) _ (k % 2 ^ (b / 2)) hkm) dX2_rootSteps_67 rfl rfl (by omega) (Nat.le_of_ble_eq_true rfl) ?_
          refine nk_iadd dX2_rootSteps_70 ?_
          refine nk_ireturn dX2_rootSteps_71 rfl ?_
          have c : ¬ sp_c (gm f) b (k / 2 ^ (b / 2)) = 0 ∧ nI (k % 2 ^ (b / 2)) < sp_hi (sp_c (gm f) b (k / 2 ^ (b / 2))) := ⟨h45, Int32.not_le.mp h55⟩
          exact ⟨by rw [if_pos c]; rfl, rfl⟩
    · skip
      refine nk_iconst (v := 1) dX2_rootSteps_16 (by decide) ?_
      refine nk_ireturn dX2_rootSteps_17 rfl ?_
      have hc : fb_ct (gm f) 1024 = 0 ∨ nI k < nk_rN (nk_up (gm f) 0 (nk_tp b)) := by
        first
        | exact Or.inl h8
        | exact Or.inr (Int32.not_le.mp h13)
      exact ⟨by unfold sp_stp; rw [if_pos hc], rfl⟩

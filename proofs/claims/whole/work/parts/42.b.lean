/-! the class: nodes of one word -/
set_option maxRecDepth 20000 in
theorem s_X7_within {G : nk_EG} {v l u : Int32} {H : nk_AH} : nk_Si G mX7_within 1 [.int v, .int l, .int u] H (if l.toInt ≤ v.toInt ∧ v.toInt ≤ u.toInt then 1 else 0) H := by
  refine nk_S.of (by decide +kernel) (Nat.le_of_ble_eq_true rfl) rfl ?_
  refine nk_iload_n (i := 0) dX7_within_0 rfl rfl ?_
  refine nk_iload_n (i := 1) dX7_within_1 rfl rfl ?_
  refine nk_icmplt (tgt := 14) dX7_within_2 (by decide) (fun h2 => ?_) (fun h2 => ?_)
  · skip
    refine nk_iconst (v := 0) dX7_within_14 (by decide) ?_
    refine nk_zreturn dX7_within_15 rfl rfl ?_
    first
    | exact ⟨nk_v1 ⟨(fa_le _ _).mp (Int32.not_lt.mp h2), (fa_le _ _).mp (Int32.not_lt.mp h7)⟩, rfl⟩
    | exact ⟨nk_v0 (fun z => absurd ((fa_le _ _).mpr z.1) (Int32.not_le.mpr h2)), rfl⟩
    | exact ⟨nk_v0 (fun z => absurd ((fa_le _ _).mpr z.2) (Int32.not_le.mpr h7)), rfl⟩
  · skip
    refine nk_iload_n (i := 0) dX7_within_5 rfl rfl ?_
    refine nk_iload_n (i := 2) dX7_within_6 rfl rfl ?_
    refine nk_icmpgt (tgt := 14) dX7_within_7 (by decide) (fun h7 => ?_) (fun h7 => ?_)
    · skip
      refine nk_iconst (v := 0) dX7_within_14 (by decide) ?_
      refine nk_zreturn dX7_within_15 rfl rfl ?_
      first
      | exact ⟨nk_v1 ⟨(fa_le _ _).mp (Int32.not_lt.mp h2), (fa_le _ _).mp (Int32.not_lt.mp h7)⟩, rfl⟩
      | exact ⟨nk_v0 (fun z => absurd ((fa_le _ _).mpr z.1) (Int32.not_le.mpr h2)), rfl⟩
      | exact ⟨nk_v0 (fun z => absurd ((fa_le _ _).mpr z.2) (Int32.not_le.mpr h7)), rfl⟩
    · skip
      refine nk_iconst (v := 1) dX7_within_10 (by decide) ?_
      refine nk_goto (tgt := 15) dX7_within_11 (by decide) ?_
      refine nk_zreturn dX7_within_15 rfl rfl ?_
      first
      | exact ⟨nk_v1 ⟨(fa_le _ _).mp (Int32.not_lt.mp h2), (fa_le _ _).mp (Int32.not_lt.mp h7)⟩, rfl⟩
      | exact ⟨nk_v0 (fun z => absurd ((fa_le _ _).mpr z.1) (Int32.not_le.mpr h2)), rfl⟩
      | exact ⟨nk_v0 (fun z => absurd ((fa_le _ _).mpr z.2) (Int32.not_le.mpr h7)), rfl⟩
set_option maxRecDepth 20000 in
theorem s_X7_isRow {G : nk_EG} {r : Int32} {H : nk_AH} : nk_Si G mX7_isRow 2 [.int r] H (if 0 ≤ r.toInt ∧ r.toInt ≤ 7 then 1 else 0) H := by
  refine nk_S.of (by decide +kernel) (Nat.le_of_ble_eq_true rfl) rfl ?_
  refine nk_iload_n (i := 0) dX7_isRow_0 rfl rfl ?_
  refine nk_iconst (v := 0) dX7_isRow_1 (by decide) ?_
  refine nk_bipush (v := 7) dX7_isRow_2 (by decide) ?_
  refine nk_cSi kX7_57 (s_X7_within) dX7_isRow_4 rfl rfl (by decide) (Nat.le_of_ble_eq_true rfl) ?_
  refine nk_zreturn dX7_isRow_7 rfl (nk_bn _) ?_
  exact ⟨rfl, rfl⟩
set_option maxRecDepth 20000 in
theorem s_X3_lowOf {G : nk_EG} {b : Nat} {H : nk_AH} (hb : b < 2 ^ 31) : nk_Si G mX3_lowOf 1 [.int (nI b)] H (nI (b / 2)) H := by
  refine nk_S.of (by decide +kernel) (Nat.le_of_ble_eq_true rfl) rfl ?_
  refine nk_iload_n (i := 0) dX3_lowOf_0 rfl rfl ?_
  refine nk_iconst (v := 2) dX3_lowOf_1 (by decide) ?_
  refine nk_idiv dX3_lowOf_2 (by decide) ?_
  refine nk_ireturn dX3_lowOf_3 rfl ?_
  exact ⟨by rw [show (2 : Int32) = nI 2 from rfl, pk_div hb (by omega) (by omega)], rfl⟩
set_option maxRecDepth 20000 in
theorem s_X3_highOf {G : nk_EG} {b : Nat} {H : nk_AH} (hb : b < 2 ^ 31) : nk_Si G mX3_highOf 1 [.int (nI b)] H (nI (b - b / 2)) H := by
  refine nk_S.of (by decide +kernel) (Nat.le_of_ble_eq_true rfl) rfl ?_
  refine nk_iload_n (i := 0) dX3_highOf_0 rfl rfl ?_
  refine nk_iload_n (i := 0) dX3_highOf_1 rfl rfl ?_
  refine nk_iconst (v := 2) dX3_highOf_2 (by decide) ?_
  refine nk_idiv dX3_highOf_3 (by decide) ?_
  refine nk_top (y := nI (b / 2)) (pk_div (d := 2) hb (by omega) (by omega)) ?_
  refine nk_isub dX3_highOf_4 ?_
  refine nk_top (y := nI (b - b / 2)) (pk_sub (Nat.div_le_self _ _)) ?_
  refine nk_ireturn dX3_highOf_5 rfl ?_
  exact ⟨rfl, rfl⟩
set_option maxRecDepth 20000 in
theorem s_X3_leastOf {G : nk_EG} {x : Int32} {H : nk_AH} : nk_Si G mX3_leastOf 2 [.int x] H (sp_lo x) H := by
  refine nk_S.of (by decide +kernel) (Nat.le_of_ble_eq_true rfl) rfl ?_
  refine nk_iload_n (i := 0) dX3_leastOf_0 rfl rfl ?_
  refine nk_ifne (tgt := 9) dX3_leastOf_1 (by decide) (fun h1 => ?_) (fun h1 => ?_)
  · skip
    obtain ⟨t, ht, e, g1, g2⟩ := sp_lo_of h1
    refine nk_iload_n (i := 0) dX3_leastOf_9 rfl rfl ?_
    refine nk_cSi kX3_10 (s_J6_numberOfTrailingZeros_0f7a4 g1 g2) dX3_leastOf_10 rfl rfl (by decide) (Nat.le_of_ble_eq_true rfl) ?_
    refine nk_ireturn dX3_leastOf_13 rfl ?_
    first
    | exact ⟨by rw [h1, sp_lo_0], rfl⟩
    | exact ⟨by rw [e], rfl⟩
  · skip
    refine nk_ldc qX3_9 dX3_leastOf_4 ?_
    refine nk_goto (tgt := 13) dX3_leastOf_6 (by decide) ?_
    refine nk_ireturn dX3_leastOf_13 rfl ?_
    first
    | exact ⟨by rw [h1, sp_lo_0], rfl⟩
    | exact ⟨by rw [e], rfl⟩
set_option maxRecDepth 20000 in
theorem s_X3_greatestOf {G : nk_EG} {x : Int32} {H : nk_AH} : nk_Si G mX3_greatestOf 2 [.int x] H (sp_hi x) H := by
  refine nk_S.of (by decide +kernel) (Nat.le_of_ble_eq_true rfl) rfl ?_
  refine nk_iload_n (i := 0) dX3_greatestOf_0 rfl rfl ?_
  refine nk_ifne (tgt := 9) dX3_greatestOf_1 (by decide) (fun h1 => ?_) (fun h1 => ?_)
  · skip
    obtain ⟨t, ht, e, g1, g2⟩ := sp_hi_of h1
    refine nk_bipush (v := 31) dX3_greatestOf_9 (by decide) ?_
    refine nk_iload_n (i := 0) dX3_greatestOf_11 rfl rfl ?_
    refine nk_cSi kX3_16 (s_J6_numberOfLeadingZeros_0f7a4 g1 g2) dX3_greatestOf_12 rfl rfl (by decide) (Nat.le_of_ble_eq_true rfl) ?_
    refine nk_isub dX3_greatestOf_15 ?_
    refine nk_ireturn dX3_greatestOf_16 rfl ?_
    first
    | exact ⟨by rw [h1, sp_hi_0], rfl⟩
    | exact ⟨by rw [e, show (31 : Int32) - nI (31 - t) = nI (31 - (31 - t)) from pk_sub (a := 31) (b := 31 - t) (by omega), show 31 - (31 - t) = t by omega], rfl⟩
  · skip
    refine nk_ldc qX3_9 dX3_greatestOf_4 ?_
    refine nk_goto (tgt := 16) dX3_greatestOf_6 (by decide) ?_
    refine nk_ireturn dX3_greatestOf_16 rfl ?_
    first
    | exact ⟨by rw [h1, sp_hi_0], rfl⟩
    | exact ⟨by rw [e, show (31 : Int32) - nI (31 - t) = nI (31 - (31 - t)) from pk_sub (a := 31) (b := 31 - t) (by omega), show 31 - (31 - t) = t by omega], rfl⟩
set_option maxRecDepth 20000 in
theorem s_X3_withoutLeast {G : nk_EG} {x : Int32} {H : nk_AH} : nk_Si G mX3_withoutLeast 1 [.int x] H (pf_rest x) H := by
  refine nk_S.of (by decide +kernel) (Nat.le_of_ble_eq_true rfl) rfl ?_
  refine nk_iload_n (i := 0) dX3_withoutLeast_0 rfl rfl ?_
  refine nk_iload_n (i := 0) dX3_withoutLeast_1 rfl rfl ?_
  refine nk_iconst (v := 1) dX3_withoutLeast_2 (by decide) ?_
  refine nk_isub dX3_withoutLeast_3 ?_
  refine nk_iand dX3_withoutLeast_4 ?_
  refine nk_ireturn dX3_withoutLeast_5 rfl ?_
  exact ⟨rfl, rfl⟩
set_option maxRecDepth 20000 in
theorem s_X3_clusterIn {G : nk_EG} {h : Int32} {l x : Nat} {H : nk_AH} (hl : l ≤ 5) (hx : x * 2 ^ l < 2 ^ 31) : nk_Si G mX3_clusterIn 1 [.int h, .int (nI l), .int (nI x)] H (cl_in h l x) H := by
  refine nk_S.of (by decide +kernel) (Nat.le_of_ble_eq_true rfl) rfl ?_
  have h2 := nk_2l5 hl
  refine nk_iload_n (i := 2) dX3_clusterIn_0 rfl rfl ?_
  refine nk_iload_n (i := 1) dX3_clusterIn_1 rfl rfl ?_
  refine nk_ishl dX3_clusterIn_2 ?_
  refine nk_top (y := nI (x * 2 ^ l)) (nk_shN (by omega) hx) ?_
  refine nk_bipush (v := 32) dX3_clusterIn_3 (by decide) ?_
  refine nk_irem dX3_clusterIn_5 (by decide) ?_
  refine nk_top (y := nI (x * 2 ^ l % 32)) (nk_r32 hx) ?_
  refine nk_istore_nT (i := 3) dX3_clusterIn_6 rfl (by decide) ?_
  refine nk_iload_n (i := 0) dX3_clusterIn_7 rfl rfl ?_
  refine nk_iload_n (i := 3) dX3_clusterIn_8 rfl rfl ?_
  refine nk_iushr dX3_clusterIn_9 ?_
  refine nk_iconst (v := -1) dX3_clusterIn_10 (by decide) ?_
  refine nk_bipush (v := 32) dX3_clusterIn_11 (by decide) ?_
  refine nk_iconst (v := 1) dX3_clusterIn_13 (by decide) ?_
  refine nk_iload_n (i := 1) dX3_clusterIn_14 rfl rfl ?_
  refine nk_ishl dX3_clusterIn_15 ?_
  refine nk_top (y := nI (2 ^ l)) (nk_sh1 (by omega)) ?_
  refine nk_isub dX3_clusterIn_16 ?_
  refine nk_top (y := nI (32 - 2 ^ l)) (pk_sub h2.1) ?_
  refine nk_iushr dX3_clusterIn_17 ?_
  refine nk_iand dX3_clusterIn_18 ?_
  refine nk_ireturn dX3_clusterIn_19 rfl ?_
  exact ⟨rfl, rfl⟩
set_option maxRecDepth 20000 in
theorem l_summaryIn {G : nk_EG} {h : Int32} {b : Nat} {H : nk_AH} (hb2 : 2 ≤ b) (hb5 : b ≤ 5) : ∀ (n : Nat) (y : Nat) (h1 : y ≤ 2 ^ (b - b / 2)) (h2 : 2 ^ (b - b / 2) < y + n), nk_J G mX3_summaryIn 2 (nk_ri (pf_highs h (nI (b / 2)) (2 ^ (b - b / 2))) H) 0 0 4 [some (.int h), some (.int (nI b)), some (.int (pf_highs h (nI (b / 2)) y)), some (.int (nI y))] [] H := by
  intro n
  induction n with
  | zero => intro y h1 h2; omega
  | succ n ih =>
    intro y h1 h2
    have h2h : 2 ^ (b - b / 2) ≤ 8 := Nat.pow_le_pow_right (n := 2) (j := 3) (by omega) (by omega)
    refine nk_iload_n (i := 3) dX3_summaryIn_4 rfl rfl ?_
    refine nk_iconst (v := 1) dX3_summaryIn_5 (by decide) ?_
    refine nk_iload_n (i := 1) dX3_summaryIn_6 rfl rfl ?_
    refine nk_cSi kX3_19 (s_X3_highOf (by omega)) dX3_summaryIn_7 rfl rfl (by decide) (Nat.le_of_ble_eq_true rfl) ?_
    refine nk_ishl dX3_summaryIn_10 ?_
    refine nk_top (y := nI (2 ^ (b - b / 2))) (nk_sh1 (by omega)) ?_
    refine nk_icmpge (tgt := 42) dX3_summaryIn_11 (by decide) (fun h11 => ?_) (fun h11 => ?_)
    · skip
      refine nk_iload_n (i := 2) dX3_summaryIn_42 rfl rfl ?_
      refine nk_ireturn dX3_summaryIn_43 rfl ?_
      have e : y = 2 ^ (b - b / 2) := Nat.le_antisymm h1 (nk_leI h11 (by omega) (by omega))
      exact ⟨by rw [e], rfl⟩
    · skip
      have hy := nk_nleI (a := 2 ^ (b - b / 2)) h11 (by omega) (by omega)
      refine nk_iload_n (i := 2) dX3_summaryIn_14 rfl rfl ?_
      refine nk_iload_n (i := 0) dX3_summaryIn_15 rfl rfl ?_
      refine nk_iload_n (i := 1) dX3_summaryIn_16 rfl rfl ?_
      refine nk_cSi kX3_24 (s_X3_lowOf (by omega)) dX3_summaryIn_17 rfl rfl (by decide) (Nat.le_of_ble_eq_true rfl) ?_
      refine nk_iload_n (i := 3) dX3_summaryIn_20 rfl rfl ?_
      refine nk_cSi kX3_27 (s_X3_clusterIn (by omega) (cl_lt hb5 hy)) dX3_summaryIn_21 rfl rfl (by decide) (Nat.le_of_ble_eq_true rfl) ?_
      refine nk_top (y := (pf_part h (nI y) (nI (b / 2)))) (cl_part (by omega) (cl_hl hb5 hy)) ?_
      refine nk_ifne (tgt := 31) dX3_summaryIn_24 (by decide) (fun h24 => ?_) (fun h24 => ?_)
      · skip
        refine nk_iconst (v := 1) dX3_summaryIn_31 (by decide) ?_
        refine nk_iload_n (i := 3) dX3_summaryIn_32 rfl rfl ?_
        refine nk_ishl dX3_summaryIn_33 ?_
        refine nk_ior dX3_summaryIn_34 ?_
        refine nk_istore_nT (i := 2) dX3_summaryIn_35 rfl (by decide) ?_
        refine nk_iincT dX3_summaryIn_36 rfl (nk_i1 y) (by decide) ?_
        refine nk_goto (tgt := 4) dX3_summaryIn_39 (by decide) ?_
        refine (ih (y + 1) (by omega) (by omega)).to ?_ rfl rfl
        first
        | (rw [pf_highs, if_pos h24]; rfl)
        | (rw [pf_highs, if_neg h24]; rfl)
      · skip
        refine nk_iconst (v := 0) dX3_summaryIn_27 (by decide) ?_
        refine nk_goto (tgt := 34) dX3_summaryIn_28 (by decide) ?_
        refine nk_ior dX3_summaryIn_34 ?_
        refine nk_istore_nT (i := 2) dX3_summaryIn_35 rfl (by decide) ?_
        refine nk_iincT dX3_summaryIn_36 rfl (nk_i1 y) (by decide) ?_
        refine nk_goto (tgt := 4) dX3_summaryIn_39 (by decide) ?_
        refine (ih (y + 1) (by omega) (by omega)).to ?_ rfl rfl
        first
        | (rw [pf_highs, if_pos h24]; rfl)
        | (rw [pf_highs, if_neg h24]; rfl)
set_option maxRecDepth 20000 in
theorem s_X3_summaryIn {G : nk_EG} {h : Int32} {b : Nat} {H : nk_AH} (hb2 : 2 ≤ b) (hb5 : b ≤ 5) : nk_Si G mX3_summaryIn 2 [.int h, .int (nI b)] H (pf_highs h (nI (b / 2)) (2 ^ (b - b / 2))) H := by
  refine nk_S.of (by decide +kernel) (Nat.le_of_ble_eq_true rfl) rfl ?_
  refine nk_iconst (v := 0) dX3_summaryIn_0 (by decide) ?_
  refine nk_istore_nT (i := 2) dX3_summaryIn_1 rfl (by decide) ?_
  refine nk_iconst (v := 0) dX3_summaryIn_2 (by decide) ?_
  refine nk_istore_nT (i := 3) dX3_summaryIn_3 rfl (by decide) ?_
  exact l_summaryIn hb2 hb5 (2 ^ (b - b / 2) + 1) 0 (Nat.zero_le _) (by omega)
set_option maxRecDepth 20000 in
theorem l_nodesOf {G : nk_EG} {x : Int32} {b : Nat} {H : nk_AH} (hb2 : 2 ≤ b) (hb5 : b ≤ 5) (ih0 : ∀ c, 1 ≤ c → c < b → ∀ x, nk_Si G mX3_nodesOf (c + 2) [.int x, .int (nI c)] H (pf_nd x (nI c)) H) : ∀ (n : Nat) (y : Nat) (h1 : y ≤ 2 ^ (b - b / 2)) (h2 : 2 ^ (b - b / 2) < y + n), nk_J G mX3_nodesOf (b + 2) (nk_ri (pf_acc (1 + pf_nd (pf_highs (pf_rest x) (nI (b / 2)) (2 ^ (b - b / 2))) (nI (b - b / 2))) (fun y => pf_nd (pf_part (pf_rest x) (nI y) (nI (b / 2))) (nI (b / 2))) (2 ^ (b - b / 2))) H) 0 0 42 [some (.int x), some (.int (nI b)), some (.int (pf_rest x)), some (.int (pf_acc (1 + pf_nd (pf_highs (pf_rest x) (nI (b / 2)) (2 ^ (b - b / 2))) (nI (b - b / 2))) (fun y => pf_nd (pf_part (pf_rest x) (nI y) (nI (b / 2))) (nI (b / 2))) y)), some (.int (nI y))] [] H := by
  intro n
  induction n with
  | zero => intro y h1 h2; omega
  | succ n ih =>
    intro y h1 h2
    have h2h : 2 ^ (b - b / 2) ≤ 8 := Nat.pow_le_pow_right (n := 2) (j := 3) (by omega) (by omega)
    refine nk_iload dX3_nodesOf_42 rfl ?_
    refine nk_iconst (v := 1) dX3_nodesOf_44 (by decide) ?_
    refine nk_iload_n (i := 1) dX3_nodesOf_45 rfl rfl ?_
    refine nk_cSi kX3_19 (s_X3_highOf (by omega)) dX3_nodesOf_46 rfl rfl (by omega) (Nat.le_of_ble_eq_true rfl) ?_
    refine nk_ishl dX3_nodesOf_49 ?_
    refine nk_top (y := nI (2 ^ (b - b / 2))) (nk_sh1 (by omega)) ?_
    refine nk_icmpge (tgt := 79) dX3_nodesOf_50 (by decide) (fun h50 => ?_) (fun h50 => ?_)
    · skip
      refine nk_iload_n (i := 3) dX3_nodesOf_79 rfl rfl ?_
      refine nk_ireturn dX3_nodesOf_80 rfl ?_
      have e : y = 2 ^ (b - b / 2) := Nat.le_antisymm h1 (nk_leI h50 (by omega) (by omega))
      exact ⟨by rw [e], rfl⟩
    · skip
      have hy := nk_nleI (a := 2 ^ (b - b / 2)) h50 (by omega) (by omega)
      refine nk_iload_n (i := 3) dX3_nodesOf_53 rfl rfl ?_
      refine nk_iload_n (i := 2) dX3_nodesOf_54 rfl rfl ?_
      refine nk_iload_n (i := 1) dX3_nodesOf_55 rfl rfl ?_
      refine nk_cSi kX3_24 (s_X3_lowOf (by omega)) dX3_nodesOf_56 rfl rfl (by omega) (Nat.le_of_ble_eq_true rfl) ?_
      refine nk_iload dX3_nodesOf_59 rfl ?_
      refine nk_cSi kX3_27 (s_X3_clusterIn (by omega) (cl_lt hb5 hy)) dX3_nodesOf_61 rfl rfl (by omega) (Nat.le_of_ble_eq_true rfl) ?_
      refine nk_top (y := (pf_part (pf_rest x) (nI y) (nI (b / 2)))) (cl_part (by omega) (cl_hl hb5 hy)) ?_
      refine nk_iload_n (i := 1) dX3_nodesOf_64 rfl rfl ?_
      refine nk_cSi kX3_24 (s_X3_lowOf (by omega)) dX3_nodesOf_65 rfl rfl (by omega) (Nat.le_of_ble_eq_true rfl) ?_
      refine nk_cSi kX3_31 (ih0 (b / 2) (by omega) (by omega) _) dX3_nodesOf_68 rfl rfl (by omega) (Nat.le_of_ble_eq_true rfl) ?_
      refine nk_iadd dX3_nodesOf_71 ?_
      refine nk_istore_nT (i := 3) dX3_nodesOf_72 rfl (by decide) ?_
      refine nk_iincT dX3_nodesOf_73 rfl (nk_i1 y) (by decide) ?_
      refine nk_goto (tgt := 42) dX3_nodesOf_76 (by decide) ?_
      exact ih (y + 1) (by omega) (by omega)
set_option maxRecDepth 20000 in
theorem s_X3_nodesOf {G : nk_EG} {H : nk_AH} : ∀ (b : Nat) (hb1 : 1 ≤ b) (hb5 : b ≤ 5) (x : Int32), nk_Si G mX3_nodesOf (b + 2) [.int x, .int (nI b)] H (pf_nd x (nI b)) H := by
  intro b
  induction b using Nat.strongRecOn with
  | ind b ih0 =>
    intro hb1 hb5 x
    refine nk_S.of (by decide +kernel) (Nat.le_of_ble_eq_true rfl) rfl ?_
    refine nk_iload_n (i := 0) dX3_nodesOf_0 rfl rfl ?_
    refine nk_ifeq (tgt := 9) dX3_nodesOf_1 (by decide) (fun h1 => ?_) (fun h1 => ?_)
    · skip
      have hx0 := h1
      refine nk_iload_n (i := 0) dX3_nodesOf_9 rfl rfl ?_
      refine nk_ifne (tgt := 17) dX3_nodesOf_10 (by decide) (fun h10 => ?_) (fun h10 => ?_)
      · skip
        refine nk_iconst (v := 1) dX3_nodesOf_17 (by decide) ?_
        refine nk_ireturn dX3_nodesOf_18 rfl ?_
        first
        | exact absurd hx0 h10
        | exact absurd h10 hx0
        | (rw [hx0]; exact ⟨by rw [pf_nd_z hb1 hb5], rfl⟩)
        | (have e : b = 1 := by have := nk_nleI (a := 2) h6 (by omega) (by omega); omega
           subst e
           exact ⟨by rw [pf_nd_1]; unfold pf_n1; rw [if_neg hx0], rfl⟩)
      · skip
        refine nk_iconst (v := 0) dX3_nodesOf_13 (by decide) ?_
        refine nk_goto (tgt := 18) dX3_nodesOf_14 (by decide) ?_
        refine nk_ireturn dX3_nodesOf_18 rfl ?_
        first
        | exact absurd hx0 h10
        | exact absurd h10 hx0
        | (rw [hx0]; exact ⟨by rw [pf_nd_z hb1 hb5], rfl⟩)
        | (have e : b = 1 := by have := nk_nleI (a := 2) h6 (by omega) (by omega); omega
           subst e
           exact ⟨by rw [pf_nd_1]; unfold pf_n1; rw [if_neg hx0], rfl⟩)
    · skip
      have hx0 := h1
      refine nk_iload_n (i := 1) dX3_nodesOf_4 rfl rfl ?_
      refine nk_iconst (v := 2) dX3_nodesOf_5 (by decide) ?_
      refine nk_icmpge (tgt := 19) dX3_nodesOf_6 (by decide) (fun h6 => ?_) (fun h6 => ?_)
      · skip
        have hb2 := nk_leI (a := 2) h6 (by omega) (by omega)
        have h2h : 2 ^ (b - b / 2) ≤ 8 := Nat.pow_le_pow_right (n := 2) (j := 3) (by omega) (by omega)
        rw [pf_nd_b x hb2 hb5, if_neg hx0]
        refine nk_iload_n (i := 0) dX3_nodesOf_19 rfl rfl ?_
        refine nk_cSi kX3_41 (s_X3_withoutLeast) dX3_nodesOf_20 rfl rfl (by omega) (Nat.le_of_ble_eq_true rfl) ?_
        refine nk_istore_nT (i := 2) dX3_nodesOf_23 rfl (by decide) ?_
        refine nk_iconst (v := 1) dX3_nodesOf_24 (by decide) ?_
        refine nk_iload_n (i := 2) dX3_nodesOf_25 rfl rfl ?_
        refine nk_iload_n (i := 1) dX3_nodesOf_26 rfl rfl ?_
        refine nk_cSi kX3_44 (s_X3_summaryIn hb2 hb5) dX3_nodesOf_27 rfl rfl (by omega) (Nat.le_of_ble_eq_true rfl) ?_
        refine nk_iload_n (i := 1) dX3_nodesOf_30 rfl rfl ?_
        refine nk_cSi kX3_19 (s_X3_highOf (by omega)) dX3_nodesOf_31 rfl rfl (by omega) (Nat.le_of_ble_eq_true rfl) ?_
        refine nk_cSi kX3_31 (ih0 (b - b / 2) (by omega) (by omega) (by omega) _) dX3_nodesOf_34 rfl rfl (by omega) (Nat.le_of_ble_eq_true rfl) ?_
        refine nk_iadd dX3_nodesOf_37 ?_
        refine nk_istore_nT (i := 3) dX3_nodesOf_38 rfl (by decide) ?_
        refine nk_iconst (v := 0) dX3_nodesOf_39 (by decide) ?_
        refine nk_istoreT dX3_nodesOf_40 (by decide) ?_
        exact l_nodesOf hb2 hb5 (fun c c1 c2 => ih0 c c2 c1 (by omega)) (2 ^ (b - b / 2) + 1) 0 (Nat.zero_le _) (by omega)
      · skip
        refine nk_iload_n (i := 0) dX3_nodesOf_9 rfl rfl ?_
        refine nk_ifne (tgt := 17) dX3_nodesOf_10 (by decide) (fun h10 => ?_) (fun h10 => ?_)
        · skip
          refine nk_iconst (v := 1) dX3_nodesOf_17 (by decide) ?_
          refine nk_ireturn dX3_nodesOf_18 rfl ?_
          first
          | exact absurd hx0 h10
          | exact absurd h10 hx0
          | (rw [hx0]; exact ⟨by rw [pf_nd_z hb1 hb5], rfl⟩)
          | (have e : b = 1 := by have := nk_nleI (a := 2) h6 (by omega) (by omega); omega
             subst e
             exact ⟨by rw [pf_nd_1]; unfold pf_n1; rw [if_neg hx0], rfl⟩)
        · skip
          refine nk_iconst (v := 0) dX3_nodesOf_13 (by decide) ?_
          refine nk_goto (tgt := 18) dX3_nodesOf_14 (by decide) ?_
          refine nk_ireturn dX3_nodesOf_18 rfl ?_
          first
          | exact absurd hx0 h10
          | exact absurd h10 hx0
          | (rw [hx0]; exact ⟨by rw [pf_nd_z hb1 hb5], rfl⟩)
          | (have e : b = 1 := by have := nk_nleI (a := 2) h6 (by omega) (by omega); omega
             subst e
             exact ⟨by rw [pf_nd_1]; unfold pf_n1; rw [if_neg hx0], rfl⟩)
set_option maxRecDepth 20000 in
theorem l_depthOf {G : nk_EG} {x : Int32} {b : Nat} {H : nk_AH} (hb2 : 2 ≤ b) (hb5 : b ≤ 5) (ih0 : ∀ c, 1 ≤ c → c < b → ∀ x, bsm c x → nk_Si G mX3_depthOf (c + 2) [.int x, .int (nI c)] H (pf_dp x (nI c)) H) : ∀ (n : Nat) (y : Nat) (h1 : y ≤ 2 ^ (b - b / 2)) (h2 : 2 ^ (b - b / 2) < y + n), nk_J G mX3_depthOf (b + 2) (nk_ri (1 + pf_mxa (pf_dp (pf_highs (pf_rest x) (nI (b / 2)) (2 ^ (b - b / 2))) (nI (b - b / 2))) (fun y => pf_dp (pf_part (pf_rest x) (nI y) (nI (b / 2))) (nI (b / 2))) (2 ^ (b - b / 2))) H) 0 0 40 [some (.int x), some (.int (nI b)), some (.int (pf_rest x)), some (.int (pf_mxa (pf_dp (pf_highs (pf_rest x) (nI (b / 2)) (2 ^ (b - b / 2))) (nI (b - b / 2))) (fun y => pf_dp (pf_part (pf_rest x) (nI y) (nI (b / 2))) (nI (b / 2))) y)), some (.int (nI y))] [] H := by
  intro n
  induction n with
  | zero => intro y h1 h2; omega
  | succ n ih =>
    intro y h1 h2
    have h2h : 2 ^ (b - b / 2) ≤ 8 := Nat.pow_le_pow_right (n := 2) (j := 3) (by omega) (by omega)
    refine nk_iload dX3_depthOf_40 rfl ?_
    refine nk_iconst (v := 1) dX3_depthOf_42 (by decide) ?_
    refine nk_iload_n (i := 1) dX3_depthOf_43 rfl rfl ?_
    refine nk_cSi kX3_19 (s_X3_highOf (by omega)) dX3_depthOf_44 rfl rfl (by omega) (Nat.le_of_ble_eq_true rfl) ?_
    refine nk_ishl dX3_depthOf_47 ?_
    refine nk_top (y := nI (2 ^ (b - b / 2))) (nk_sh1 (by omega)) ?_
    refine nk_icmpge (tgt := 79) dX3_depthOf_48 (by decide) (fun h48 => ?_) (fun h48 => ?_)
    · skip
      refine nk_iconst (v := 1) dX3_depthOf_79 (by decide) ?_
      refine nk_iload_n (i := 3) dX3_depthOf_80 rfl rfl ?_
      refine nk_iadd dX3_depthOf_81 ?_
      refine nk_ireturn dX3_depthOf_82 rfl ?_
      have e : y = 2 ^ (b - b / 2) := Nat.le_antisymm h1 (nk_leI h48 (by omega) (by omega))
      exact ⟨by rw [e], rfl⟩
    · skip
      have hy := nk_nleI (a := 2 ^ (b - b / 2)) h48 (by omega) (by omega)
      refine nk_iload_n (i := 3) dX3_depthOf_51 rfl rfl ?_
      refine nk_iload_n (i := 2) dX3_depthOf_52 rfl rfl ?_
      refine nk_iload_n (i := 1) dX3_depthOf_53 rfl rfl ?_
      refine nk_cSi kX3_24 (s_X3_lowOf (by omega)) dX3_depthOf_54 rfl rfl (by omega) (Nat.le_of_ble_eq_true rfl) ?_
      refine nk_iload dX3_depthOf_57 rfl ?_
      refine nk_cSi kX3_27 (s_X3_clusterIn (by omega) (cl_lt hb5 hy)) dX3_depthOf_59 rfl rfl (by omega) (Nat.le_of_ble_eq_true rfl) ?_
      refine nk_top (y := (pf_part (pf_rest x) (nI y) (nI (b / 2)))) (cl_part (by omega) (cl_hl hb5 hy)) ?_
      refine nk_iload_n (i := 1) dX3_depthOf_62 rfl rfl ?_
      refine nk_cSi kX3_24 (s_X3_lowOf (by omega)) dX3_depthOf_63 rfl rfl (by omega) (Nat.le_of_ble_eq_true rfl) ?_
      refine nk_cSi kX3_47 (ih0 (b / 2) (by omega) (by omega) _ (bsm_part (by omega) (cl_hl hb5 hy))) dX3_depthOf_66 rfl rfl (by omega) (Nat.le_of_ble_eq_true rfl) ?_
      refine nk_cSi kX3_50 (s_J9_max_7cf53) dX3_depthOf_69 rfl rfl (by omega) (Nat.le_of_ble_eq_true rfl) ?_
      refine nk_istore_nT (i := 3) dX3_depthOf_72 rfl (by decide) ?_
      refine nk_iincT dX3_depthOf_73 rfl (nk_i1 y) (by decide) ?_
      refine nk_goto (tgt := 40) dX3_depthOf_76 (by decide) ?_
      exact ih (y + 1) (by omega) (by omega)
set_option maxRecDepth 20000 in
theorem s_X3_depthOf {G : nk_EG} {H : nk_AH} : ∀ (b : Nat) (hb1 : 1 ≤ b) (hb5 : b ≤ 5) (x : Int32) (hs : bsm b x), nk_Si G mX3_depthOf (b + 2) [.int x, .int (nI b)] H (pf_dp x (nI b)) H := by
  intro b
  induction b using Nat.strongRecOn with
  | ind b ih0 =>
    intro hb1 hb5 x hs
    refine nk_S.of (by decide +kernel) (Nat.le_of_ble_eq_true rfl) rfl ?_
    refine nk_iload_n (i := 0) dX3_depthOf_0 rfl rfl ?_
    refine nk_ifeq (tgt := 9) dX3_depthOf_1 (by decide) (fun h1 => ?_) (fun h1 => ?_)
    · skip
      have hx0 := h1
      refine nk_iload_n (i := 0) dX3_depthOf_9 rfl rfl ?_
      refine nk_ifne (tgt := 17) dX3_depthOf_10 (by decide) (fun h10 => ?_) (fun h10 => ?_)
      · skip
        refine nk_iconst (v := 1) dX3_depthOf_17 (by decide) ?_
        refine nk_ireturn dX3_depthOf_18 rfl ?_
        first
        | exact absurd hx0 h10
        | exact absurd h10 hx0
        | (rw [hx0]; exact ⟨by rw [pf_dp_z hb1 hb5], rfl⟩)
        | (have e : b = 1 := by have := nk_nleI (a := 2) h6 (by omega) (by omega); omega
           subst e
           exact ⟨by rw [pf_dp_1]; unfold pf_n1; rw [if_neg hx0], rfl⟩)
      · skip
        refine nk_iconst (v := 0) dX3_depthOf_13 (by decide) ?_
        refine nk_goto (tgt := 18) dX3_depthOf_14 (by decide) ?_
        refine nk_ireturn dX3_depthOf_18 rfl ?_
        first
        | exact absurd hx0 h10
        | exact absurd h10 hx0
        | (rw [hx0]; exact ⟨by rw [pf_dp_z hb1 hb5], rfl⟩)
        | (have e : b = 1 := by have := nk_nleI (a := 2) h6 (by omega) (by omega); omega
           subst e
           exact ⟨by rw [pf_dp_1]; unfold pf_n1; rw [if_neg hx0], rfl⟩)
    · skip
      have hx0 := h1
      refine nk_iload_n (i := 1) dX3_depthOf_4 rfl rfl ?_
      refine nk_iconst (v := 2) dX3_depthOf_5 (by decide) ?_
      refine nk_icmpge (tgt := 19) dX3_depthOf_6 (by decide) (fun h6 => ?_) (fun h6 => ?_)
      · skip
        have hb2 := nk_leI (a := 2) h6 (by omega) (by omega)
        have h2h : 2 ^ (b - b / 2) ≤ 8 := Nat.pow_le_pow_right (n := 2) (j := 3) (by omega) (by omega)
        rw [pf_dp_b hb2 hb5 hs, pf_dpr, if_neg hx0]
        refine nk_iload_n (i := 0) dX3_depthOf_19 rfl rfl ?_
        refine nk_cSi kX3_41 (s_X3_withoutLeast) dX3_depthOf_20 rfl rfl (by omega) (Nat.le_of_ble_eq_true rfl) ?_
        refine nk_istore_nT (i := 2) dX3_depthOf_23 rfl (by decide) ?_
        refine nk_iload_n (i := 2) dX3_depthOf_24 rfl rfl ?_
        refine nk_iload_n (i := 1) dX3_depthOf_25 rfl rfl ?_
        refine nk_cSi kX3_44 (s_X3_summaryIn hb2 hb5) dX3_depthOf_26 rfl rfl (by omega) (Nat.le_of_ble_eq_true rfl) ?_
        refine nk_iload_n (i := 1) dX3_depthOf_29 rfl rfl ?_
        refine nk_cSi kX3_19 (s_X3_highOf (by omega)) dX3_depthOf_30 rfl rfl (by omega) (Nat.le_of_ble_eq_true rfl) ?_
        refine nk_cSi kX3_47 (ih0 (b - b / 2) (by omega) (by omega) (by omega) _ (bsm_highs (by omega))) dX3_depthOf_33 rfl rfl (by omega) (Nat.le_of_ble_eq_true rfl) ?_
        refine nk_istore_nT (i := 3) dX3_depthOf_36 rfl (by decide) ?_
        refine nk_iconst (v := 0) dX3_depthOf_37 (by decide) ?_
        refine nk_istoreT dX3_depthOf_38 (by decide) ?_
        exact l_depthOf hb2 hb5 (fun c c1 c2 => ih0 c c2 c1 (by omega)) (2 ^ (b - b / 2) + 1) 0 (Nat.zero_le _) (by omega)
      · skip
        refine nk_iload_n (i := 0) dX3_depthOf_9 rfl rfl ?_
        refine nk_ifne (tgt := 17) dX3_depthOf_10 (by decide) (fun h10 => ?_) (fun h10 => ?_)
        · skip
          refine nk_iconst (v := 1) dX3_depthOf_17 (by decide) ?_
          refine nk_ireturn dX3_depthOf_18 rfl ?_
          first
          | exact absurd hx0 h10
          | exact absurd h10 hx0
          | (rw [hx0]; exact ⟨by rw [pf_dp_z hb1 hb5], rfl⟩)
          | (have e : b = 1 := by have := nk_nleI (a := 2) h6 (by omega) (by omega); omega
             subst e
             exact ⟨by rw [pf_dp_1]; unfold pf_n1; rw [if_neg hx0], rfl⟩)
        · skip
          refine nk_iconst (v := 0) dX3_depthOf_13 (by decide) ?_
          refine nk_goto (tgt := 18) dX3_depthOf_14 (by decide) ?_
          refine nk_ireturn dX3_depthOf_18 rfl ?_
          first
          | exact absurd hx0 h10
          | exact absurd h10 hx0
          | (rw [hx0]; exact ⟨by rw [pf_dp_z hb1 hb5], rfl⟩)
          | (have e : b = 1 := by have := nk_nleI (a := 2) h6 (by omega) (by omega); omega
             subst e
             exact ⟨by rw [pf_dp_1]; unfold pf_n1; rw [if_neg hx0], rfl⟩)
set_option maxRecDepth 20000 in
theorem s_X3_stepsAbove {G : nk_EG} {H : nk_AH} : ∀ (b : Nat) (hb1 : 1 ≤ b) (hb5 : b ≤ 5) (x : Int32) (k : Nat) (hk : k < 2 ^ b), nk_Si G mX3_stepsAbove (b + 2) [.int x, .int (nI b), .int (nI k)] H (nI (pf_sa x b (nI k))) H := by
  intro b
  induction b using Nat.strongRecOn with
  | ind b ih0 =>
    intro hb1 hb5 x k hk
    have hk5 : 2 ^ b ≤ 32 := Nat.pow_le_pow_right (n := 2) (j := 5) (by omega) hb5
    refine nk_S.of (by decide +kernel) (Nat.le_of_ble_eq_true rfl) rfl ?_
    refine nk_iload_n (i := 0) dX3_stepsAbove_0 rfl rfl ?_
    refine nk_ifeq (tgt := 17) dX3_stepsAbove_1 (by decide) (fun h1 => ?_) (fun h1 => ?_)
    · skip
      have hx0 := h1
      refine nk_iconst (v := 1) dX3_stepsAbove_17 (by decide) ?_
      refine nk_ireturn dX3_stepsAbove_18 rfl ?_
      have hn : ¬ (¬ x = 0 ∧ 1 < b ∧ sp_lo x ≤ nI k) := fun z => by
        first
        | exact z.1 hx0
        | (have := nk_ltI (b := 2) h6 (by omega) (by omega); omega)
        | exact h14 z.2.2
      exact ⟨by rw [pf_sa_1 hn]; rfl, rfl⟩
    · skip
      have hx0 := h1
      refine nk_iload_n (i := 1) dX3_stepsAbove_4 rfl rfl ?_
      refine nk_iconst (v := 2) dX3_stepsAbove_5 (by decide) ?_
      refine nk_icmplt (tgt := 17) dX3_stepsAbove_6 (by decide) (fun h6 => ?_) (fun h6 => ?_)
      · skip
        refine nk_iconst (v := 1) dX3_stepsAbove_17 (by decide) ?_
        refine nk_ireturn dX3_stepsAbove_18 rfl ?_
        have hn : ¬ (¬ x = 0 ∧ 1 < b ∧ sp_lo x ≤ nI k) := fun z => by
          first
          | exact z.1 hx0
          | (have := nk_ltI (b := 2) h6 (by omega) (by omega); omega)
          | exact h14 z.2.2
        exact ⟨by rw [pf_sa_1 hn]; rfl, rfl⟩
      · skip
        refine nk_iload_n (i := 2) dX3_stepsAbove_9 rfl rfl ?_
        refine nk_iload_n (i := 0) dX3_stepsAbove_10 rfl rfl ?_
        refine nk_cSi kX3_35 (s_X3_leastOf) dX3_stepsAbove_11 rfl rfl (by omega) (Nat.le_of_ble_eq_true rfl) ?_
        refine nk_icmpge (tgt := 19) dX3_stepsAbove_14 (by decide) (fun h14 => ?_) (fun h14 => ?_)
        · skip
          have hb2 := nk_nltI (b := 2) h6 (by omega) (by omega)
          have hkl := nk_kl hk
          have hcl := cl_hl hb5 hkl
          have hkm := Nat.mod_lt k (Nat.two_pow_pos (b / 2))
          have hc : ¬ x = 0 ∧ 1 < b ∧ sp_lo x ≤ nI k := ⟨hx0, by omega, h14⟩
          refine nk_iload_n (i := 0) dX3_stepsAbove_19 rfl rfl ?_
          refine nk_cSi kX3_41 (s_X3_withoutLeast) dX3_stepsAbove_20 rfl rfl (by omega) (Nat.le_of_ble_eq_true rfl) ?_
          refine nk_istore_nT (i := 3) dX3_stepsAbove_23 rfl (by decide) ?_
          refine nk_iload_n (i := 2) dX3_stepsAbove_24 rfl rfl ?_
          refine nk_iload_n (i := 1) dX3_stepsAbove_25 rfl rfl ?_
          refine nk_cSi kX3_24 (s_X3_lowOf (by omega)) dX3_stepsAbove_26 rfl rfl (by omega) (Nat.le_of_ble_eq_true rfl) ?_
          refine nk_ishr dX3_stepsAbove_29 ?_
          refine nk_top (y := nI (k / 2 ^ (b / 2))) (nk_srN (by omega) (by omega)) ?_
          refine nk_istoreT dX3_stepsAbove_30 (by decide) ?_
          refine nk_iload_n (i := 2) dX3_stepsAbove_32 rfl rfl ?_
          refine nk_iload dX3_stepsAbove_33 rfl ?_
          refine nk_iload_n (i := 1) dX3_stepsAbove_35 rfl rfl ?_
          refine nk_cSi kX3_24 (s_X3_lowOf (by omega)) dX3_stepsAbove_36 rfl rfl (by omega) (Nat.le_of_ble_eq_true rfl) ?_
          refine nk_ishl dX3_stepsAbove_39 ?_
          refine nk_top (y := nI (k / 2 ^ (b / 2) * 2 ^ (b / 2))) (nk_shN (by omega) (by omega)) ?_
          refine nk_isub dX3_stepsAbove_40 ?_
          refine nk_top (y := nI (k % 2 ^ (b / 2))) (nk_kmod) ?_
          refine nk_istoreT dX3_stepsAbove_41 (by decide) ?_
          refine nk_iload_n (i := 3) dX3_stepsAbove_43 rfl rfl ?_
          refine nk_iload_n (i := 1) dX3_stepsAbove_44 rfl rfl ?_
          refine nk_cSi kX3_24 (s_X3_lowOf (by omega)) dX3_stepsAbove_45 rfl rfl (by omega) (Nat.le_of_ble_eq_true rfl) ?_
          refine nk_iload dX3_stepsAbove_48 rfl ?_
          refine nk_cSi kX3_27 (s_X3_clusterIn (by omega) (by omega)) dX3_stepsAbove_50 rfl rfl (by omega) (Nat.le_of_ble_eq_true rfl) ?_
          refine nk_top (y := pf_part (pf_rest x) (nI (k / 2 ^ (b / 2))) (nI (b / 2))) (cl_part (by omega) hcl) ?_
          refine nk_istoreT dX3_stepsAbove_53 (by decide) ?_
          refine nk_iload dX3_stepsAbove_55 rfl ?_
          refine nk_ifeq (tgt := 84) dX3_stepsAbove_57 (by decide) (fun h57 => ?_) (fun h57 => ?_)
          · skip
            refine nk_iconst (v := 1) dX3_stepsAbove_84 (by decide) ?_
            refine nk_iload_n (i := 3) dX3_stepsAbove_85 rfl rfl ?_
            refine nk_iload_n (i := 1) dX3_stepsAbove_86 rfl rfl ?_
            refine nk_cSi kX3_44 (s_X3_summaryIn hb2 hb5) dX3_stepsAbove_87 rfl rfl (by omega) (Nat.le_of_ble_eq_true rfl) ?_
            refine nk_iload_n (i := 1) dX3_stepsAbove_90 rfl rfl ?_
            refine nk_cSi kX3_19 (s_X3_highOf (by omega)) dX3_stepsAbove_91 rfl rfl (by omega) (Nat.le_of_ble_eq_true rfl) ?_
            refine nk_iload dX3_stepsAbove_94 rfl ?_
            refine nk_cSi kX3_55 (ih0 (b - b / 2) (by omega) (by omega) (by omega) _ (k / 2 ^ (b / 2)) hkl) dX3_stepsAbove_96 rfl rfl (by omega) (Nat.le_of_ble_eq_true rfl) ?_
            refine nk_iadd dX3_stepsAbove_99 ?_
            refine nk_ireturn dX3_stepsAbove_100 rfl ?_
            have hin : ¬ pf_in x (b / 2) (nI k) := fun z => by
              unfold pf_in at z
              rw [nk_srN (by omega) (by omega), pf_lw_n (by omega)] at z
              first
              | exact z.1 h57
              | exact absurd z.2 (Int32.not_lt.mpr h67)
            exact ⟨by rw [pf_sa_hi hc hin, nk_srN (by omega) (by omega), ← nI_add]; rfl, rfl⟩
          · skip
            refine nk_iload dX3_stepsAbove_60 rfl ?_
            refine nk_cSi kX3_38 (s_X3_greatestOf) dX3_stepsAbove_62 rfl rfl (by omega) (Nat.le_of_ble_eq_true rfl) ?_
            refine nk_iload dX3_stepsAbove_65 rfl ?_
            refine nk_icmple (tgt := 84) dX3_stepsAbove_67 (by decide) (fun h67 => ?_) (fun h67 => ?_)
            · skip
              refine nk_iconst (v := 1) dX3_stepsAbove_84 (by decide) ?_
              refine nk_iload_n (i := 3) dX3_stepsAbove_85 rfl rfl ?_
              refine nk_iload_n (i := 1) dX3_stepsAbove_86 rfl rfl ?_
              refine nk_cSi kX3_44 (s_X3_summaryIn hb2 hb5) dX3_stepsAbove_87 rfl rfl (by omega) (Nat.le_of_ble_eq_true rfl) ?_
              refine nk_iload_n (i := 1) dX3_stepsAbove_90 rfl rfl ?_
              refine nk_cSi kX3_19 (s_X3_highOf (by omega)) dX3_stepsAbove_91 rfl rfl (by omega) (Nat.le_of_ble_eq_true rfl) ?_
              refine nk_iload dX3_stepsAbove_94 rfl ?_
              refine nk_cSi kX3_55 (ih0 (b - b / 2) (by omega) (by omega) (by omega) _ (k / 2 ^ (b / 2)) hkl) dX3_stepsAbove_96 rfl rfl (by omega) (Nat.le_of_ble_eq_true rfl) ?_
              refine nk_iadd dX3_stepsAbove_99 ?_
              refine nk_ireturn dX3_stepsAbove_100 rfl ?_
              have hin : ¬ pf_in x (b / 2) (nI k) := fun z => by
                unfold pf_in at z
                rw [nk_srN (by omega) (by omega), pf_lw_n (by omega)] at z
                first
                | exact z.1 h57
                | exact absurd z.2 (Int32.not_lt.mpr h67)
              exact ⟨by rw [pf_sa_hi hc hin, nk_srN (by omega) (by omega), ← nI_add]; rfl, rfl⟩
            · skip
              refine nk_iconst (v := 1) dX3_stepsAbove_70 (by decide) ?_
              refine nk_iload dX3_stepsAbove_71 rfl ?_
              refine nk_iload_n (i := 1) dX3_stepsAbove_73 rfl rfl ?_
              refine nk_cSi kX3_24 (s_X3_lowOf (by omega)) dX3_stepsAbove_74 rfl rfl (by omega) (Nat.le_of_ble_eq_true rfl) ?_
              refine nk_iload dX3_stepsAbove_77 rfl ?_
              refine nk_cSi kX3_55 (ih0 (b / 2) (by omega) (by omega) (by omega) _ (k % 2 ^ (b / 2)) hkm) dX3_stepsAbove_79 rfl rfl (by omega) (Nat.le_of_ble_eq_true rfl) ?_
              refine nk_iadd dX3_stepsAbove_82 ?_
              refine nk_ireturn dX3_stepsAbove_83 rfl ?_
              have hin : pf_in x (b / 2) (nI k) := by
                unfold pf_in
                rw [nk_srN (by omega) (by omega), pf_lw_n (by omega)]
                exact ⟨h57, Int32.not_le.mp h67⟩
              exact ⟨by rw [pf_sa_in hc hin, nk_srN (by omega) (by omega), pf_lw_n (by omega), ← nI_add]; rfl, rfl⟩
        · skip
          refine nk_iconst (v := 1) dX3_stepsAbove_17 (by decide) ?_
          refine nk_ireturn dX3_stepsAbove_18 rfl ?_
          have hn : ¬ (¬ x = 0 ∧ 1 < b ∧ sp_lo x ≤ nI k) := fun z => by
            first
            | exact z.1 hx0
            | (have := nk_ltI (b := 2) h6 (by omega) (by omega); omega)
            | exact h14 z.2.2
          exact ⟨by rw [pf_sa_1 hn]; rfl, rfl⟩
set_option maxRecDepth 20000 in
theorem s_X3_about {G : nk_EG} {x y : Int32} {b : Nat} {H : nk_AH} (h1 : 1 ≤ b) (hb5 : b ≤ 5) (hy : sp_R y 0 2) : nk_Si G mX3_about 8 [.int x, .int (nI b), .int y] H (pf_tells x (nI b) y) H := by
  refine nk_S.of (by decide +kernel) (Nat.le_of_ble_eq_true rfl) rfl ?_
  refine nk_iload_n (i := 2) dX3_about_0 rfl rfl ?_
  refine nk_iconst (v := 2) dX3_about_1 (by decide) ?_
  refine nk_icmpne (tgt := 11) dX3_about_2 (by decide) (fun h2 => ?_) (fun h2 => ?_)
  · skip
    refine nk_iload_n (i := 2) dX3_about_11 rfl rfl ?_
    refine nk_ifne (tgt := 22) dX3_about_12 (by decide) (fun h12 => ?_) (fun h12 => ?_)
    · skip
      refine nk_iload_n (i := 0) dX3_about_22 rfl rfl ?_
      refine nk_cSi kX3_38 (s_X3_greatestOf) dX3_about_23 rfl rfl (by omega) (Nat.le_of_ble_eq_true rfl) ?_
      refine nk_ireturn dX3_about_26 rfl ?_
      first
      | exact ⟨by unfold pf_tells; rw [h2, if_neg (by decide), if_neg (by decide)], rfl⟩
      | exact ⟨by unfold pf_tells; rw [h12, if_pos rfl], rfl⟩
      | (have e : y = 1 := by
           have a1 : ¬ y.toInt = 2 := fun q => h2 ((fa_eq _ _).mpr q)
           have a2 : ¬ y.toInt = 0 := fun q => h12 ((fa_eq _ _).mpr q)
           have a3 := hy.1
           have a4 := hy.2
           exact (fa_eq _ _).mpr (show y.toInt = 1 by omega)
         exact ⟨by unfold pf_tells; rw [e, if_neg (by decide), if_pos rfl], rfl⟩)
    · skip
      refine nk_iload_n (i := 0) dX3_about_15 rfl rfl ?_
      refine nk_cSi kX3_35 (s_X3_leastOf) dX3_about_16 rfl rfl (by omega) (Nat.le_of_ble_eq_true rfl) ?_
      refine nk_goto (tgt := 26) dX3_about_19 (by decide) ?_
      refine nk_ireturn dX3_about_26 rfl ?_
      first
      | exact ⟨by unfold pf_tells; rw [h2, if_neg (by decide), if_neg (by decide)], rfl⟩
      | exact ⟨by unfold pf_tells; rw [h12, if_pos rfl], rfl⟩
      | (have e : y = 1 := by
           have a1 : ¬ y.toInt = 2 := fun q => h2 ((fa_eq _ _).mpr q)
           have a2 : ¬ y.toInt = 0 := fun q => h12 ((fa_eq _ _).mpr q)
           have a3 := hy.1
           have a4 := hy.2
           exact (fa_eq _ _).mpr (show y.toInt = 1 by omega)
         exact ⟨by unfold pf_tells; rw [e, if_neg (by decide), if_pos rfl], rfl⟩)
  · skip
    refine nk_iload_n (i := 0) dX3_about_5 rfl rfl ?_
    refine nk_iload_n (i := 1) dX3_about_6 rfl rfl ?_
    refine nk_cSi kX3_31 (s_X3_nodesOf b h1 hb5 x) dX3_about_7 rfl rfl (by omega) (Nat.le_of_ble_eq_true rfl) ?_
    refine nk_ireturn dX3_about_10 rfl ?_
    first
    | exact ⟨by unfold pf_tells; rw [h2, if_neg (by decide), if_neg (by decide)], rfl⟩
    | exact ⟨by unfold pf_tells; rw [h12, if_pos rfl], rfl⟩
    | (have e : y = 1 := by
         have a1 : ¬ y.toInt = 2 := fun q => h2 ((fa_eq _ _).mpr q)
         have a2 : ¬ y.toInt = 0 := fun q => h12 ((fa_eq _ _).mpr q)
         have a3 := hy.1
         have a4 := hy.2
         exact (fa_eq _ _).mpr (show y.toInt = 1 by omega)
       exact ⟨by unfold pf_tells; rw [e, if_neg (by decide), if_pos rfl], rfl⟩)

/-! the reference: static methods of numbers -/
theorem nk_i1 (k : Nat) : nI k + Int32.ofInt 1 = nI (k + 1) := nI_1 k
theorem nk_lt_of_cmp {x y : Int64} (h : lg_cmp x y < 0) : ¬ y ≤ x := by rw [lg_cmp_lt] at h; exact Int64.not_le.mpr h
theorem nk_leI {a b : Nat} (h : nI a ≤ nI b) (ha : a < 2 ^ 31) (hb : b < 2 ^ 31) : a ≤ b := (nI_leI ha hb).mp h
theorem nk_nleI {a b : Nat} (h : ¬ nI a ≤ nI b) (ha : a < 2 ^ 31) (hb : b < 2 ^ 31) : b < a := Nat.not_le.mp (fun q => h ((nI_leI ha hb).mpr q))
theorem nk_ltI {a b : Nat} (h : nI a < nI b) (ha : a < 2 ^ 31) (hb : b < 2 ^ 31) : a < b := (nI_ltI ha hb).mp h
theorem nk_nltI {a b : Nat} (h : ¬ nI a < nI b) (ha : a < 2 ^ 31) (hb : b < 2 ^ 31) : b ≤ a := Nat.not_lt.mp (fun q => h ((nI_ltI ha hb).mpr q))
set_option maxRecDepth 20000 in
theorem s_X8_in {G : nk_EG} {v l u : Int64} {H : nk_AH} : nk_Si G mX8_in 1 [.long v, .long l, .long u] H (if l ≤ v ∧ v ≤ u then 1 else 0) H := by
  refine nk_S.of (by decide +kernel) (Nat.le_of_ble_eq_true rfl) rfl ?_
  refine nk_lload_n (i := 0) dX8_in_0 rfl rfl ?_
  refine nk_lload_n (i := 2) dX8_in_1 rfl rfl ?_
  refine nk_lcmp dX8_in_2 ?_
  refine nk_iflt (tgt := 17) dX8_in_3 (by decide) (fun h3 => ?_) (fun h3 => ?_)
  · skip
    refine nk_iconst (v := 0) dX8_in_17 (by decide) ?_
    refine nk_zreturn dX8_in_18 rfl rfl ?_
    first
    | exact ⟨by rw [if_neg (fun q => absurd q.1 (nk_lt_of_cmp h3))], rfl⟩
    | exact ⟨by rw [if_neg (fun q => absurd q.2 (Int64.not_le.mpr ((lg_cmp_gt _ _).mp h10)))], rfl⟩
    | exact ⟨by rw [if_pos ⟨Int64.not_lt.mp (fun q => h3 ((lg_cmp_lt _ _).mpr q)), Int64.not_lt.mp (fun q => h10 ((lg_cmp_gt _ _).mpr q))⟩], rfl⟩
  · skip
    refine nk_lload_n (i := 0) dX8_in_6 rfl rfl ?_
    refine nk_lload dX8_in_7 rfl ?_
    refine nk_lcmp dX8_in_9 ?_
    refine nk_ifgt (tgt := 17) dX8_in_10 (by decide) (fun h10 => ?_) (fun h10 => ?_)
    · skip
      refine nk_iconst (v := 0) dX8_in_17 (by decide) ?_
      refine nk_zreturn dX8_in_18 rfl rfl ?_
      first
      | exact ⟨by rw [if_neg (fun q => absurd q.1 (nk_lt_of_cmp h3))], rfl⟩
      | exact ⟨by rw [if_neg (fun q => absurd q.2 (Int64.not_le.mpr ((lg_cmp_gt _ _).mp h10)))], rfl⟩
      | exact ⟨by rw [if_pos ⟨Int64.not_lt.mp (fun q => h3 ((lg_cmp_lt _ _).mpr q)), Int64.not_lt.mp (fun q => h10 ((lg_cmp_gt _ _).mpr q))⟩], rfl⟩
    · skip
      refine nk_iconst (v := 1) dX8_in_13 (by decide) ?_
      refine nk_goto (tgt := 18) dX8_in_14 (by decide) ?_
      refine nk_zreturn dX8_in_18 rfl rfl ?_
      first
      | exact ⟨by rw [if_neg (fun q => absurd q.1 (nk_lt_of_cmp h3))], rfl⟩
      | exact ⟨by rw [if_neg (fun q => absurd q.2 (Int64.not_le.mpr ((lg_cmp_gt _ _).mp h10)))], rfl⟩
      | exact ⟨by rw [if_pos ⟨Int64.not_lt.mp (fun q => h3 ((lg_cmp_lt _ _).mpr q)), Int64.not_lt.mp (fun q => h10 ((lg_cmp_gt _ _).mpr q))⟩], rfl⟩
def pf_bit (x k : Int32) : Int32 := (x >>> (k &&& 31)) &&& 1
def pf_ones (x : Int32) : Nat → Int32
  | 0 => 0
  | k + 1 => pf_ones x k + pf_bit x (nI k)
set_option maxRecDepth 20000 in
theorem s_X8_has {G : nk_EG} {x k : Int32} {H : nk_AH} : nk_Si G mX8_has 1 [.int x, .int k] H (if pf_bit x k = 1 then 1 else 0) H := by
  refine nk_S.of (by decide +kernel) (Nat.le_of_ble_eq_true rfl) rfl ?_
  refine nk_iload_n (i := 0) dX8_has_0 rfl rfl ?_
  refine nk_iload_n (i := 1) dX8_has_1 rfl rfl ?_
  refine nk_ishr dX8_has_2 ?_
  refine nk_iconst (v := 1) dX8_has_3 (by decide) ?_
  refine nk_iand dX8_has_4 ?_
  refine nk_iconst (v := 1) dX8_has_5 (by decide) ?_
  refine nk_icmpne (tgt := 13) dX8_has_6 (by decide) (fun h6 => ?_) (fun h6 => ?_)
  · skip
    refine nk_iconst (v := 0) dX8_has_13 (by decide) ?_
    refine nk_zreturn dX8_has_14 rfl rfl ?_
    first
    | exact ⟨by rw [if_pos (by assumption)], rfl⟩
    | exact ⟨by rw [if_neg (by assumption)], rfl⟩
  · skip
    refine nk_iconst (v := 1) dX8_has_9 (by decide) ?_
    refine nk_goto (tgt := 14) dX8_has_10 (by decide) ?_
    refine nk_zreturn dX8_has_14 rfl rfl ?_
    first
    | exact ⟨by rw [if_pos (by assumption)], rfl⟩
    | exact ⟨by rw [if_neg (by assumption)], rfl⟩
set_option maxRecDepth 20000 in
theorem l_X8_ones {G : nk_EG} {x : Int32} {H : nk_AH} : ∀ (n : Nat) (k : Nat) (h1 : k ≤ 32) (h2 : 32 < k + n), nk_J G mX8_ones 1 (nk_ri (pf_ones x 32) H) 0 0 4 [some (.int x), some (.int (pf_ones x k)), some (.int (nI k))] [] H := by
  intro n
  induction n with
  | zero => intro k h1 h2; omega
  | succ n ih =>
    intro k h1 h2
    refine nk_iload_n (i := 2) dX8_ones_4 rfl rfl ?_
    refine nk_bipush (v := 32) dX8_ones_5 (by decide) ?_
    refine nk_icmpge (tgt := 24) dX8_ones_7 (by decide) (fun h7 => ?_) (fun h7 => ?_)
    · skip
      refine nk_iload_n (i := 1) dX8_ones_24 rfl rfl ?_
      refine nk_ireturn dX8_ones_25 rfl ?_
      have hk := nk_leI (a := 32) h7 (by omega) (by omega)
      obtain rfl : k = 32 := by omega
      exact ⟨rfl, rfl⟩
    · skip
      refine nk_iload_n (i := 1) dX8_ones_10 rfl rfl ?_
      refine nk_iload_n (i := 0) dX8_ones_11 rfl rfl ?_
      refine nk_iload_n (i := 2) dX8_ones_12 rfl rfl ?_
      refine nk_ishr dX8_ones_13 ?_
      refine nk_iconst (v := 1) dX8_ones_14 (by decide) ?_
      refine nk_iand dX8_ones_15 ?_
      refine nk_iadd dX8_ones_16 ?_
      refine nk_istore_n (i := 1) dX8_ones_17 rfl (by decide) rfl ?_
      refine nk_iinc dX8_ones_18 rfl (nk_i1 k) (by decide) rfl ?_
      refine nk_goto (tgt := 4) dX8_ones_21 (by decide) ?_
      exact ih (k + 1) (by have := nk_nleI (a := 32) h7 (by omega) (by omega); omega) (by omega)
set_option maxRecDepth 20000 in
theorem s_X8_ones {G : nk_EG} {x : Int32} {H : nk_AH} : nk_Si G mX8_ones 1 [.int x] H (pf_ones x 32) H := by
  refine nk_S.of (by decide +kernel) (Nat.le_of_ble_eq_true rfl) rfl ?_
  refine nk_iconst (v := 0) dX8_ones_0 (by decide) ?_
  refine nk_istore_n (i := 1) dX8_ones_1 rfl (by decide) rfl ?_
  refine nk_iconst (v := 0) dX8_ones_2 (by decide) ?_
  refine nk_istore_n (i := 2) dX8_ones_3 rfl (by decide) rfl ?_
  exact l_X8_ones 33 0 (by omega) (by omega)

/-! the reference: steps in a node of one word; the tree of a set -/
set_option maxRecDepth 20000 in
theorem l_X8_stepsIn {G : nk_EG} {H : nk_AH} {y1 y2 y3 : Int32} {T : Nat} : ∀ (n : Nat) (node x : Int32) (b k : Nat) (l7 l8 l9 l10 : Option Value) (h1 : b ≤ 5) (h2 : b < n) (hT : pf_st n node b x k = T), nk_J G mX8_stepsIn 3 (nk_ri (nI T) H) 0 0 11 [some (.int y1), some (.int y2), some (.int y3), some (.int node), some (.int (nI b)), some (.int x), some (.int (nI k)), l7, l8, l9, l10] [] H := by
  intro n
  induction n with
  | zero => intro node x b k l7 l8 l9 l10 h1 h2 hT; omega
  | succ n ih =>
    intro node x b k l7 l8 l9 l10 h1 h2 hT
    refine nk_iload_n (i := 3) dX8_stepsIn_11 rfl rfl ?_
    refine nk_ifeq (tgt := 155) dX8_stepsIn_12 (by decide) (fun h12 => ?_) (fun h12 => ?_)
    · skip
      refine nk_iload dX8_stepsIn_155 rfl ?_
      refine nk_ireturn dX8_stepsIn_157 rfl ?_
      rw [pf_st, if_neg (fun z => by
        first
        | exact z.1 h12
        | exact absurd z.2.1 (by have := nk_leI (b := 1) h18 (by omega) (by omega); omega)
        | exact absurd z.2.2 (Int32.not_le.mpr h27))] at hT
      exact ⟨by rw [hT], rfl⟩
    · skip
      refine nk_iload dX8_stepsIn_15 rfl ?_
      refine nk_iconst (v := 1) dX8_stepsIn_17 (by decide) ?_
      refine nk_icmple (tgt := 155) dX8_stepsIn_18 (by decide) (fun h18 => ?_) (fun h18 => ?_)
      · skip
        refine nk_iload dX8_stepsIn_155 rfl ?_
        refine nk_ireturn dX8_stepsIn_157 rfl ?_
        rw [pf_st, if_neg (fun z => by
          first
          | exact z.1 h12
          | exact absurd z.2.1 (by have := nk_leI (b := 1) h18 (by omega) (by omega); omega)
          | exact absurd z.2.2 (Int32.not_le.mpr h27))] at hT
        exact ⟨by rw [hT], rfl⟩
      · skip
        refine nk_iload dX8_stepsIn_21 rfl ?_
        refine nk_iload_n (i := 3) dX8_stepsIn_23 rfl rfl ?_
        refine nk_cSi kX8_244 (s_X8_leastBit) dX8_stepsIn_24 rfl rfl (by decide) (Nat.le_of_ble_eq_true rfl) ?_
        refine nk_icmplt (tgt := 155) dX8_stepsIn_27 (by decide) (fun h27 => ?_) (fun h27 => ?_)
        · skip
          refine nk_iload dX8_stepsIn_155 rfl ?_
          refine nk_ireturn dX8_stepsIn_157 rfl ?_
          rw [pf_st, if_neg (fun z => by
            first
            | exact z.1 h12
            | exact absurd z.2.1 (by have := nk_leI (b := 1) h18 (by omega) (by omega); omega)
            | exact absurd z.2.2 (Int32.not_le.mpr h27))] at hT
          exact ⟨by rw [hT], rfl⟩
        · skip
          have hb2 := nk_nleI (b := 1) h18 (by omega) (by omega)
          rw [pf_st, if_pos ⟨h12, hb2, Int32.not_lt.mp h27⟩] at hT
          refine nk_iload dX8_stepsIn_30 rfl ?_
          refine nk_iconst (v := 2) dX8_stepsIn_32 (by decide) ?_
          refine nk_idiv dX8_stepsIn_33 (by decide) ?_
          refine nk_top (y := nI (b / 2)) (pk_div (d := 2) (by omega) (by omega) (by omega)) ?_
          refine nk_istoreT dX8_stepsIn_34 (by decide) ?_
          refine nk_iload_n (i := 3) dX8_stepsIn_36 rfl rfl ?_
          refine nk_cSi kX8_190 (s_X8_rest) dX8_stepsIn_37 rfl rfl (by decide) (Nat.le_of_ble_eq_true rfl) ?_
          refine nk_istoreT dX8_stepsIn_40 (by decide) ?_
          refine nk_iload dX8_stepsIn_42 rfl ?_
          refine nk_iload dX8_stepsIn_44 rfl ?_
          refine nk_iload dX8_stepsIn_46 rfl ?_
          refine nk_ishr dX8_stepsIn_48 ?_
          refine nk_iload dX8_stepsIn_49 rfl ?_
          refine nk_cSi kX8_186 (s_X8_part) dX8_stepsIn_51 rfl rfl (by decide) (Nat.le_of_ble_eq_true rfl) ?_
          refine nk_istoreT dX8_stepsIn_54 (by decide) ?_
          refine nk_iload dX8_stepsIn_56 rfl ?_
          refine nk_ifeq (tgt := 82) dX8_stepsIn_58 (by decide) (fun h58 => ?_) (fun h58 => ?_)
          · skip
            rw [if_neg (fun z => by first | exact z.1 h58 | exact absurd z.2 (Int32.not_lt.mpr h75))] at hT
            refine nk_iconst (v := 0) dX8_stepsIn_82 (by decide) ?_
            refine nk_istoreT dX8_stepsIn_83 (by decide) ?_
            refine nk_iload dX8_stepsIn_85 rfl ?_
            refine nk_ifeq (tgt := 95) dX8_stepsIn_87 (by decide) (fun _ => ?_) (fun h87 => absurd (rfl) h87)
            refine nk_iload dX8_stepsIn_95 rfl ?_
            refine nk_iload dX8_stepsIn_97 rfl ?_
            refine nk_iload dX8_stepsIn_99 rfl ?_
            refine nk_iload dX8_stepsIn_101 rfl ?_
            refine nk_isub dX8_stepsIn_103 ?_
            refine nk_top (y := nI (b - b / 2)) (pk_sub (by omega)) ?_
            refine nk_cSi kX8_193 (s_X8_highs (N := 2 ^ (b - b / 2)) (nk_sh1 (by omega)) (Nat.le_trans (Nat.pow_le_pow_right (n := 2) (j := 5) (by omega) (by omega)) (by decide))) dX8_stepsIn_104 rfl rfl (by decide) (Nat.le_of_ble_eq_true rfl) ?_
            refine nk_istore_nT (i := 3) dX8_stepsIn_107 rfl (by decide) ?_
            refine nk_iload dX8_stepsIn_108 rfl ?_
            refine nk_ifeq (tgt := 125) dX8_stepsIn_110 (by decide) (fun _ => ?_) (fun h110 => absurd (rfl) h110)
            refine nk_iload dX8_stepsIn_125 rfl ?_
            refine nk_iload dX8_stepsIn_127 rfl ?_
            refine nk_ishr dX8_stepsIn_129 ?_
            refine nk_istoreT dX8_stepsIn_130 (by decide) ?_
            refine nk_iload dX8_stepsIn_132 rfl ?_
            refine nk_ifeq (tgt := 142) dX8_stepsIn_134 (by decide) (fun _ => ?_) (fun h134 => absurd (rfl) h134)
            refine nk_iload dX8_stepsIn_142 rfl ?_
            refine nk_iload dX8_stepsIn_144 rfl ?_
            refine nk_isub dX8_stepsIn_146 ?_
            refine nk_top (y := nI (b - b / 2)) (pk_sub (by omega)) ?_
            refine nk_istoreT dX8_stepsIn_147 (by decide) ?_
            refine nk_iincT dX8_stepsIn_149 rfl (nk_i1 k) (by decide) ?_
            refine nk_goto (tgt := 11) dX8_stepsIn_152 (by decide) ?_
            exact ih _ _ (b - b / 2) (k + 1) _ _ _ _ (by omega) (by omega) hT
          · skip
            refine nk_iload dX8_stepsIn_61 rfl ?_
            refine nk_cSi kX8_247 (s_X8_greatestBit) dX8_stepsIn_63 rfl rfl (by decide) (Nat.le_of_ble_eq_true rfl) ?_
            refine nk_iload dX8_stepsIn_66 rfl ?_
            refine nk_iconst (v := 1) dX8_stepsIn_68 (by decide) ?_
            refine nk_iload dX8_stepsIn_69 rfl ?_
            refine nk_ishl dX8_stepsIn_71 ?_
            refine nk_iconst (v := 1) dX8_stepsIn_72 (by decide) ?_
            refine nk_isub dX8_stepsIn_73 ?_
            refine nk_iand dX8_stepsIn_74 ?_
            refine nk_icmple (tgt := 82) dX8_stepsIn_75 (by decide) (fun h75 => ?_) (fun h75 => ?_)
            · skip
              rw [if_neg (fun z => by first | exact z.1 h58 | exact absurd z.2 (Int32.not_lt.mpr h75))] at hT
              refine nk_iconst (v := 0) dX8_stepsIn_82 (by decide) ?_
              refine nk_istoreT dX8_stepsIn_83 (by decide) ?_
              refine nk_iload dX8_stepsIn_85 rfl ?_
              refine nk_ifeq (tgt := 95) dX8_stepsIn_87 (by decide) (fun _ => ?_) (fun h87 => absurd (rfl) h87)
              refine nk_iload dX8_stepsIn_95 rfl ?_
              refine nk_iload dX8_stepsIn_97 rfl ?_
              refine nk_iload dX8_stepsIn_99 rfl ?_
              refine nk_iload dX8_stepsIn_101 rfl ?_
              refine nk_isub dX8_stepsIn_103 ?_
              refine nk_top (y := nI (b - b / 2)) (pk_sub (by omega)) ?_
              refine nk_cSi kX8_193 (s_X8_highs (N := 2 ^ (b - b / 2)) (nk_sh1 (by omega)) (Nat.le_trans (Nat.pow_le_pow_right (n := 2) (j := 5) (by omega) (by omega)) (by decide))) dX8_stepsIn_104 rfl rfl (by decide) (Nat.le_of_ble_eq_true rfl) ?_
              refine nk_istore_nT (i := 3) dX8_stepsIn_107 rfl (by decide) ?_
              refine nk_iload dX8_stepsIn_108 rfl ?_
              refine nk_ifeq (tgt := 125) dX8_stepsIn_110 (by decide) (fun _ => ?_) (fun h110 => absurd (rfl) h110)
              refine nk_iload dX8_stepsIn_125 rfl ?_
              refine nk_iload dX8_stepsIn_127 rfl ?_
              refine nk_ishr dX8_stepsIn_129 ?_
              refine nk_istoreT dX8_stepsIn_130 (by decide) ?_
              refine nk_iload dX8_stepsIn_132 rfl ?_
              refine nk_ifeq (tgt := 142) dX8_stepsIn_134 (by decide) (fun _ => ?_) (fun h134 => absurd (rfl) h134)
              refine nk_iload dX8_stepsIn_142 rfl ?_
              refine nk_iload dX8_stepsIn_144 rfl ?_
              refine nk_isub dX8_stepsIn_146 ?_
              refine nk_top (y := nI (b - b / 2)) (pk_sub (by omega)) ?_
              refine nk_istoreT dX8_stepsIn_147 (by decide) ?_
              refine nk_iincT dX8_stepsIn_149 rfl (nk_i1 k) (by decide) ?_
              refine nk_goto (tgt := 11) dX8_stepsIn_152 (by decide) ?_
              exact ih _ _ (b - b / 2) (k + 1) _ _ _ _ (by omega) (by omega) hT
            · skip
              rw [if_pos ⟨h58, Int32.not_le.mp h75⟩] at hT
              refine nk_iconst (v := 1) dX8_stepsIn_78 (by decide) ?_
              refine nk_goto (tgt := 83) dX8_stepsIn_79 (by decide) ?_
              refine nk_istoreT dX8_stepsIn_83 (by decide) ?_
              refine nk_iload dX8_stepsIn_85 rfl ?_
              refine nk_ifeq (tgt := 95) dX8_stepsIn_87 (by decide) (fun h87 => absurd h87 (by decide)) (fun _ => ?_)
              refine nk_iload dX8_stepsIn_90 rfl ?_
              refine nk_goto (tgt := 107) dX8_stepsIn_92 (by decide) ?_
              refine nk_istore_nT (i := 3) dX8_stepsIn_107 rfl (by decide) ?_
              refine nk_iload dX8_stepsIn_108 rfl ?_
              refine nk_ifeq (tgt := 125) dX8_stepsIn_110 (by decide) (fun h110 => absurd h110 (by decide)) (fun _ => ?_)
              refine nk_iload dX8_stepsIn_113 rfl ?_
              refine nk_iconst (v := 1) dX8_stepsIn_115 (by decide) ?_
              refine nk_iload dX8_stepsIn_116 rfl ?_
              refine nk_ishl dX8_stepsIn_118 ?_
              refine nk_iconst (v := 1) dX8_stepsIn_119 (by decide) ?_
              refine nk_isub dX8_stepsIn_120 ?_
              refine nk_iand dX8_stepsIn_121 ?_
              refine nk_goto (tgt := 130) dX8_stepsIn_122 (by decide) ?_
              refine nk_istoreT dX8_stepsIn_130 (by decide) ?_
              refine nk_iload dX8_stepsIn_132 rfl ?_
              refine nk_ifeq (tgt := 142) dX8_stepsIn_134 (by decide) (fun h134 => absurd h134 (by decide)) (fun _ => ?_)
              refine nk_iload dX8_stepsIn_137 rfl ?_
              refine nk_goto (tgt := 147) dX8_stepsIn_139 (by decide) ?_
              refine nk_istoreT dX8_stepsIn_147 (by decide) ?_
              refine nk_iincT dX8_stepsIn_149 rfl (nk_i1 k) (by decide) ?_
              refine nk_goto (tgt := 11) dX8_stepsIn_152 (by decide) ?_
              exact ih _ _ (b / 2) (k + 1) _ _ _ _ (by omega) (by omega) hT
set_option maxRecDepth 20000 in
theorem s_X8_stepsIn {G : nk_EG} {node x : Int32} {b : Nat} {H : nk_AH} (h5 : b ≤ 5) : nk_Si G mX8_stepsIn 3 [.int node, .int (nI b), .int x] H (nI (pf_st (b + 1) node b x 1)) H := by
  refine nk_S.of (by decide +kernel) (Nat.le_of_ble_eq_true rfl) rfl ?_
  refine nk_iload_n (i := 0) dX8_stepsIn_0 rfl rfl ?_
  refine nk_istore_nT (i := 3) dX8_stepsIn_1 rfl (by decide) ?_
  refine nk_iload_n (i := 1) dX8_stepsIn_2 rfl rfl ?_
  refine nk_istoreT dX8_stepsIn_3 (by decide) ?_
  refine nk_iload_n (i := 2) dX8_stepsIn_5 rfl rfl ?_
  refine nk_istoreT dX8_stepsIn_6 (by decide) ?_
  refine nk_iconst (v := 1) dX8_stepsIn_8 (by decide) ?_
  refine nk_istoreT dX8_stepsIn_9 (by decide) ?_
  exact l_X8_stepsIn (b + 1) node x b 1 none none none none h5 (by omega) rfl

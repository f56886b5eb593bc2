/-! the class: floats, factors, kinds -/
set_option maxRecDepth 20000 in
theorem t_fb {G : nk_EG} {H : nk_AH} {a b : Nat} (ha : 0 < a) (ha2 : a < 2 ^ 21) (hb : 0 < b) (hb2 : b ≤ 1024) {i j : Nat} {l7 : Option Value} (h1 : b * 2 ^ j ≤ a * 2 ^ i) (h2 : a * 2 ^ i < b * 2 ^ j * 2) (hU : a * 2 ^ i < 2 ^ 21 + 2048) (hi : i ≤ 12) (hj : j ≤ 21) : nk_J G mX7_floatBits 1 (nk_ri (nI (fl a b)) H) 0 0 91 [some (.int (nI a)), some (.int (nI b)), some (.long (lN (a * 2 ^ i))), none, some (.long (lN (b * 2 ^ j))), none, some (.int (nI (127 + j - i))), l7, none, none, none] [] H := by
  have hfin := fl_fin ha hb h1 h2 (by omega) (by omega) (by omega)
  have hD : 0 < b * 2 ^ j := Nat.mul_pos hb (Nat.pow_pos (by omega))
  generalize a * 2 ^ i = U at *
  generalize b * 2 ^ j = D at *
  rw [show (149 - (23 + i - j)) = 127 + j - i - 1 by omega] at hfin
  have hr := Nat.mod_lt (U * 2 ^ 23) hD
  have hq : U * 2 ^ 23 / D ≤ U * 2 ^ 23 := Nat.div_le_self _ _
  have hq2 : U * 2 ^ 23 / D < 2 ^ 24 := (Nat.div_lt_iff_lt_mul hD).mpr (by omega)
  generalize hR : U * 2 ^ 23 % D = R at *
  generalize hQ : U * 2 ^ 23 / D = Q at *
  refine nk_lload_n (i := 2) dX7_floatBits_91 rfl rfl ?_
  refine nk_bipush (v := 23) dX7_floatBits_92 (by decide) ?_
  refine nk_lshl dX7_floatBits_94 ?_
  refine nk_topl (y := lN (U * 2 ^ 23)) (lN_shl23 U) ?_
  refine nk_lload dX7_floatBits_95 rfl ?_
  refine nk_ldiv dX7_floatBits_97 (nk_lne (by omega) (by omega)) ?_
  refine nk_topl (y := lN Q) (by rw [pk_lDiv (by omega) hD (by omega), hQ]) ?_
  refine nk_lstoreT dX7_floatBits_98 (by decide) ?_
  refine nk_lload_n (i := 2) dX7_floatBits_100 rfl rfl ?_
  refine nk_bipush (v := 23) dX7_floatBits_101 (by decide) ?_
  refine nk_lshl dX7_floatBits_103 ?_
  refine nk_topl (y := lN (U * 2 ^ 23)) (lN_shl23 U) ?_
  refine nk_lload dX7_floatBits_104 rfl ?_
  refine nk_lrem dX7_floatBits_106 (nk_lne (by omega) (by omega)) ?_
  refine nk_topl (y := lN R) (by rw [pk_lRem (by omega) hD (by omega), hR]) ?_
  refine nk_lstoreT dX7_floatBits_107 (by decide) ?_
  refine nk_ldc2 qX7_315 dX7_floatBits_109 ?_
  refine nk_lload dX7_floatBits_112 rfl ?_
  refine nk_lmul dX7_floatBits_114 ?_
  refine nk_topl (y := lN (2 * R)) (lN_mul 2 R) ?_
  refine nk_lload dX7_floatBits_115 rfl ?_
  refine nk_lcmp dX7_floatBits_117 ?_
  refine nk_ifgt (tgt := 144) dX7_floatBits_118 (by decide) (fun h118 => ?_) (fun h118 => ?_)
  · skip
    rw [lg_cmp_gt, pk_lLT (by omega) (by omega)] at h118
    have hc : D < 2 * R ∨ (2 * R = D ∧ Q % 2 = 1) := by omega
    rw [if_pos hc] at hfin
    refine nk_lload dX7_floatBits_144 rfl ?_
    refine nk_lconst (v := 1) dX7_floatBits_146 rfl ?_
    refine nk_ladd dX7_floatBits_147 ?_
    refine nk_topl (y := lN (Q + 1)) (lN_1 Q) ?_
    refine nk_lstoreT dX7_floatBits_148 (by decide) ?_
    refine nk_iload dX7_floatBits_150 rfl ?_
    refine nk_iconst (v := 1) dX7_floatBits_152 (by decide) ?_
    refine nk_isub dX7_floatBits_153 ?_
    refine nk_top (y := nI (127 + j - i - 1)) (pk_sub (b := 1) (by omega)) ?_
    refine nk_i2l dX7_floatBits_154 ?_
    refine nk_topl (y := lN (127 + j - i - 1)) (nI_l (by omega)) ?_
    refine nk_bipush (v := 23) dX7_floatBits_155 (by decide) ?_
    refine nk_lshl dX7_floatBits_157 ?_
    refine nk_topl (y := lN ((127 + j - i - 1) * 8388608)) (lN_shl23 _) ?_
    refine nk_lload dX7_floatBits_158 rfl ?_
    refine nk_ladd dX7_floatBits_160 ?_
    refine nk_topl (y := lN ((127 + j - i - 1) * 8388608 + (Q + 1))) (lN_add _ _) ?_
    refine nk_l2i dX7_floatBits_161 ?_
    refine nk_top (y := nI ((127 + j - i - 1) * 8388608 + (Q + 1))) (lN_i _) ?_
    refine nk_ireturn dX7_floatBits_162 rfl ?_
    exact ⟨by rw [hfin], rfl⟩
  · skip
    rw [lg_cmp_gt, pk_lLT (by omega) (by omega)] at h118
    refine nk_ldc2 qX7_315 dX7_floatBits_121 ?_
    refine nk_lload dX7_floatBits_124 rfl ?_
    refine nk_lmul dX7_floatBits_126 ?_
    refine nk_topl (y := lN (2 * R)) (lN_mul 2 R) ?_
    refine nk_lload dX7_floatBits_127 rfl ?_
    refine nk_lcmp dX7_floatBits_129 ?_
    refine nk_ifne (tgt := 150) dX7_floatBits_130 (by decide) (fun h130 => ?_) (fun h130 => ?_)
    · skip
      rw [lg_cmp_eq, pk_lEQ (by omega) (by omega)] at h130
      have hc : ¬ (D < 2 * R ∨ (2 * R = D ∧ Q % 2 = 1)) := by omega
      rw [if_neg hc] at hfin
      refine nk_iload dX7_floatBits_150 rfl ?_
      refine nk_iconst (v := 1) dX7_floatBits_152 (by decide) ?_
      refine nk_isub dX7_floatBits_153 ?_
      refine nk_top (y := nI (127 + j - i - 1)) (pk_sub (b := 1) (by omega)) ?_
      refine nk_i2l dX7_floatBits_154 ?_
      refine nk_topl (y := lN (127 + j - i - 1)) (nI_l (by omega)) ?_
      refine nk_bipush (v := 23) dX7_floatBits_155 (by decide) ?_
      refine nk_lshl dX7_floatBits_157 ?_
      refine nk_topl (y := lN ((127 + j - i - 1) * 8388608)) (lN_shl23 _) ?_
      refine nk_lload dX7_floatBits_158 rfl ?_
      refine nk_ladd dX7_floatBits_160 ?_
      refine nk_topl (y := lN ((127 + j - i - 1) * 8388608 + Q)) (lN_add _ _) ?_
      refine nk_l2i dX7_floatBits_161 ?_
      refine nk_top (y := nI ((127 + j - i - 1) * 8388608 + Q)) (lN_i _) ?_
      refine nk_ireturn dX7_floatBits_162 rfl ?_
      exact ⟨by rw [hfin]; rfl, rfl⟩
    · skip
      rw [lg_cmp_eq, pk_lEQ (by omega) (by omega)] at h130
      refine nk_lload dX7_floatBits_133 rfl ?_
      refine nk_ldc2 qX7_315 dX7_floatBits_135 ?_
      refine nk_lrem dX7_floatBits_138 (by decide) ?_
      refine nk_topl (y := lN (Q % 2)) (pk_lRem (b := 2) (by omega) (by omega) (by omega)) ?_
      refine nk_lconst (v := 1) dX7_floatBits_139 rfl ?_
      refine nk_lcmp dX7_floatBits_140 ?_
      refine nk_ifne (tgt := 150) dX7_floatBits_141 (by decide) (fun h141 => ?_) (fun h141 => ?_)
      · skip
        rw [lg_cmp_eq, show (1 : Int64) = lN 1 from rfl, pk_lEQ (by omega) (by omega)] at h141
        have hc : ¬ (D < 2 * R ∨ (2 * R = D ∧ Q % 2 = 1)) := by omega
        rw [if_neg hc] at hfin
        refine nk_iload dX7_floatBits_150 rfl ?_
        refine nk_iconst (v := 1) dX7_floatBits_152 (by decide) ?_
        refine nk_isub dX7_floatBits_153 ?_
        refine nk_top (y := nI (127 + j - i - 1)) (pk_sub (b := 1) (by omega)) ?_
        refine nk_i2l dX7_floatBits_154 ?_
        refine nk_topl (y := lN (127 + j - i - 1)) (nI_l (by omega)) ?_
        refine nk_bipush (v := 23) dX7_floatBits_155 (by decide) ?_
        refine nk_lshl dX7_floatBits_157 ?_
        refine nk_topl (y := lN ((127 + j - i - 1) * 8388608)) (lN_shl23 _) ?_
        refine nk_lload dX7_floatBits_158 rfl ?_
        refine nk_ladd dX7_floatBits_160 ?_
        refine nk_topl (y := lN ((127 + j - i - 1) * 8388608 + Q)) (lN_add _ _) ?_
        refine nk_l2i dX7_floatBits_161 ?_
        refine nk_top (y := nI ((127 + j - i - 1) * 8388608 + Q)) (lN_i _) ?_
        refine nk_ireturn dX7_floatBits_162 rfl ?_
        exact ⟨by rw [hfin]; rfl, rfl⟩
      · skip
        rw [lg_cmp_eq, show (1 : Int64) = lN 1 from rfl, pk_lEQ (by omega) (by omega)] at h141
        have hc : D < 2 * R ∨ (2 * R = D ∧ Q % 2 = 1) := by omega
        rw [if_pos hc] at hfin
        refine nk_lload dX7_floatBits_144 rfl ?_
        refine nk_lconst (v := 1) dX7_floatBits_146 rfl ?_
        refine nk_ladd dX7_floatBits_147 ?_
        refine nk_topl (y := lN (Q + 1)) (lN_1 Q) ?_
        refine nk_lstoreT dX7_floatBits_148 (by decide) ?_
        refine nk_iload dX7_floatBits_150 rfl ?_
        refine nk_iconst (v := 1) dX7_floatBits_152 (by decide) ?_
        refine nk_isub dX7_floatBits_153 ?_
        refine nk_top (y := nI (127 + j - i - 1)) (pk_sub (b := 1) (by omega)) ?_
        refine nk_i2l dX7_floatBits_154 ?_
        refine nk_topl (y := lN (127 + j - i - 1)) (nI_l (by omega)) ?_
        refine nk_bipush (v := 23) dX7_floatBits_155 (by decide) ?_
        refine nk_lshl dX7_floatBits_157 ?_
        refine nk_topl (y := lN ((127 + j - i - 1) * 8388608)) (lN_shl23 _) ?_
        refine nk_lload dX7_floatBits_158 rfl ?_
        refine nk_ladd dX7_floatBits_160 ?_
        refine nk_topl (y := lN ((127 + j - i - 1) * 8388608 + (Q + 1))) (lN_add _ _) ?_
        refine nk_l2i dX7_floatBits_161 ?_
        refine nk_top (y := nI ((127 + j - i - 1) * 8388608 + (Q + 1))) (lN_i _) ?_
        refine nk_ireturn dX7_floatBits_162 rfl ?_
        exact ⟨by rw [hfin], rfl⟩
set_option maxRecDepth 20000 in
theorem l_fb2 {G : nk_EG} {H : nk_AH} {a b : Nat} (ha : 0 < a) (ha2 : a < 2 ^ 21) (hb : 0 < b) (hb2 : b ≤ 1024) {i : Nat} (hi : i ≤ 12) (hiU : i = 0 ∨ a * 2 ^ i < 2 * b) : ∀ (n : Nat) (j : Nat) (h1 : b * 2 ^ j ≤ a * 2 ^ i) (h2 : j ≤ 21) (h3 : 21 < j + n), nk_J G mX7_floatBits 1 (nk_ri (nI (fl a b)) H) 0 0 56 [some (.int (nI a)), some (.int (nI b)), some (.long (lN (a * 2 ^ i))), none, some (.long (lN (b * 2 ^ j))), none, some (.int (nI (127 + j - i))), some (.int (nI j)), none, none, none] [] H := by
  intro n
  induction n with
  | zero => intro j h1 h2 h3; omega
  | succ n ih =>
    intro j h1 h2 h3
    have hs : b * 2 ^ j * 2 = b * 2 ^ (j + 1) := by rw [Nat.pow_succ, Nat.mul_assoc]
    have h32 : ¬ (32 : Int32) ≤ nI j := fun z => by have := nk_leI (a := 32) z (by omega) (by omega); omega
    have hUb : a * 2 ^ i < 2 ^ 21 + 2048 := by
      rcases hiU with z | z
      · subst z; omega
      · omega
    refine nk_iload dX7_floatBits_56 rfl ?_
    refine nk_bipush (v := 32) dX7_floatBits_58 (by decide) ?_
    refine nk_icmpge (tgt := 91) dX7_floatBits_60 (by decide) (fun h60 => by first | exact absurd h60 (h32) | exact absurd (h32) h60) (fun _ => ?_)
    refine nk_lload_n (i := 2) dX7_floatBits_63 rfl rfl ?_
    refine nk_ldc2 qX7_315 dX7_floatBits_64 ?_
    refine nk_lload dX7_floatBits_67 rfl ?_
    refine nk_lmul dX7_floatBits_69 ?_
    refine nk_topl (y := lN (2 * (b * 2 ^ j))) (lN_mul 2 _) ?_
    refine nk_lcmp dX7_floatBits_70 ?_
    refine nk_iflt (tgt := 91) dX7_floatBits_71 (by decide) (fun h71 => ?_) (fun h71 => ?_)
    · skip
      rw [lg_cmp_lt, pk_lLT (by omega) (by omega)] at h71
      exact t_fb ha ha2 hb hb2 h1 (by omega) (by omega) hi h2
    · skip
      rw [lg_cmp_lt, pk_lLT (by omega) (by omega)] at h71
      refine nk_lload dX7_floatBits_74 rfl ?_
      refine nk_ldc2 qX7_315 dX7_floatBits_76 ?_
      refine nk_lmul dX7_floatBits_79 ?_
      refine nk_topl (y := lN (b * 2 ^ (j + 1))) (by rw [show (2 : Int64) = lN 2 from rfl, lN_mul, hs]) ?_
      refine nk_lstoreT dX7_floatBits_80 (by decide) ?_
      refine nk_iincT dX7_floatBits_82 rfl ((show nI (127 + j - i) + Int32.ofInt 1 = nI (127 + (j + 1) - i) from by rw [nk_i1]; exact congrArg nI (by omega))) (by decide) ?_
      refine nk_iincT dX7_floatBits_85 rfl (nk_i1 j) (by decide) ?_
      refine nk_goto (tgt := 56) dX7_floatBits_88 (by decide) ?_
      have hj : j + 1 ≤ 21 := by
        rcases hiU with z | z
        · subst z
          by_cases y : j = 21
          · subst y
            have : 1 * 2 ^ 21 ≤ b * 2 ^ 21 := Nat.mul_le_mul_right _ hb
            omega
          · omega
        · have : b * 1 ≤ b * 2 ^ j := Nat.mul_le_mul_left b (Nat.pow_pos (by omega))
          omega
      exact ih (j + 1) (by omega) hj (by omega)
theorem nk_d1 {a b : Nat} (h : a + 1 ≤ b) : nI (b - a) + Int32.ofInt (-1) = nI (b - (a + 1)) := by
  have e : b - a = (b - (a + 1)) + 1 := by omega
  rw [e, ← nI_1, show Int32.ofInt (-1) = -1 from rfl, Int32.add_assoc]
  exact Int32.add_zero _
set_option maxRecDepth 20000 in
theorem l_fb1 {G : nk_EG} {H : nk_AH} {a b : Nat} (ha : 0 < a) (ha2 : a < 2 ^ 21) (hb : 0 < b) (hb2 : b ≤ 1024) : ∀ (n : Nat) (i : Nat) (hiU : i = 0 ∨ a * 2 ^ i < 2 * b) (h2 : i ≤ 12) (h3 : 12 < i + n), nk_J G mX7_floatBits 1 (nk_ri (nI (fl a b)) H) 0 0 24 [some (.int (nI a)), some (.int (nI b)), some (.long (lN (a * 2 ^ i))), none, some (.long (lN (b))), none, some (.int (nI (127 - i))), some (.int (nI i)), none, none, none] [] H := by
  intro n
  induction n with
  | zero => intro i hiU h2 h3; omega
  | succ n ih =>
    intro i hiU h2 h3
    have hs : a * 2 ^ i * 2 = a * 2 ^ (i + 1) := by rw [Nat.pow_succ, Nat.mul_assoc]
    have h32 : ¬ (32 : Int32) ≤ nI i := fun z => by have := nk_leI (a := 32) z (by omega) (by omega); omega
    have hUb : a * 2 ^ i < 2 ^ 21 + 2048 := by
      rcases hiU with z | z
      · subst z; omega
      · omega
    refine nk_iload dX7_floatBits_24 rfl ?_
    refine nk_bipush (v := 32) dX7_floatBits_26 (by decide) ?_
    refine nk_icmpge (tgt := 53) dX7_floatBits_28 (by decide) (fun h28 => by first | exact absurd h28 (h32) | exact absurd (h32) h28) (fun _ => ?_)
    refine nk_lload_n (i := 2) dX7_floatBits_31 rfl rfl ?_
    refine nk_lload dX7_floatBits_32 rfl ?_
    refine nk_lcmp dX7_floatBits_34 ?_
    refine nk_ifge (tgt := 53) dX7_floatBits_35 (by decide) (fun h35 => ?_) (fun h35 => ?_)
    · skip
      rw [lg_cmp_ge, pk_lLE (by omega) (by omega)] at h35
      refine nk_iconst (v := 0) dX7_floatBits_53 (by decide) ?_
      refine nk_istoreT dX7_floatBits_54 (by decide) ?_
      exact (l_fb2 ha ha2 hb hb2 h2 hiU 22 0 (by rw [Nat.pow_zero, Nat.mul_one]; exact h35) (by omega) (by omega)).to (by rw [Nat.pow_zero, Nat.mul_one]; rfl) rfl rfl
    · skip
      rw [lg_cmp_ge, pk_lLE (by omega) (by omega)] at h35
      refine nk_lload_n (i := 2) dX7_floatBits_38 rfl rfl ?_
      refine nk_ldc2 qX7_315 dX7_floatBits_39 ?_
      refine nk_lmul dX7_floatBits_42 ?_
      refine nk_topl (y := lN (a * 2 ^ (i + 1))) (by rw [show (2 : Int64) = lN 2 from rfl, lN_mul, hs]) ?_
      refine nk_lstore_nT (i := 2) dX7_floatBits_43 rfl (by decide) ?_
      refine nk_iincT dX7_floatBits_44 rfl ((show nI (127 - i) + Int32.ofInt (-1) = nI (127 - (i + 1)) from nk_d1 (by omega))) (by decide) ?_
      refine nk_iincT dX7_floatBits_47 rfl (nk_i1 i) (by decide) ?_
      refine nk_goto (tgt := 24) dX7_floatBits_50 (by decide) ?_
      have hi11 : i ≠ 12 := fun z => by
        subst z
        have : 1 * 2 ^ 12 ≤ a * 2 ^ 12 := Nat.mul_le_mul_right _ ha
        omega
      exact ih (i + 1) (Or.inr (by omega)) (by omega) (by omega)
set_option maxRecDepth 20000 in
theorem s_X7_floatBits {G : nk_EG} {H : nk_AH} {a b : Nat} (ha2 : a < 2 ^ 21) (hb : 0 < b) (hb2 : b ≤ 1024) : nk_Si G mX7_floatBits 1 [.int (nI a), .int (nI b)] H (nI (fl a b)) H := by
  refine nk_S.of (by decide +kernel) (Nat.le_of_ble_eq_true rfl) rfl ?_
  refine nk_iload_n (i := 0) dX7_floatBits_0 rfl rfl ?_
  refine nk_ifle (tgt := 8) dX7_floatBits_1 (by decide) (fun h1 => ?_) (fun h1 => ?_)
  · skip
    refine nk_iconst (v := 0) dX7_floatBits_8 (by decide) ?_
    refine nk_ireturn dX7_floatBits_9 rfl ?_
    first
    | (have ha : a = 0 := by have := nk_leI (b := 0) h1 (by omega) (by omega); omega
       subst ha
       exact ⟨rfl, rfl⟩)
    | exact absurd ((nI_ltI (a := 0) (by omega) (by omega)).mpr hb) h5
  · skip
    refine nk_iload_n (i := 1) dX7_floatBits_4 rfl rfl ?_
    refine nk_ifgt (tgt := 10) dX7_floatBits_5 (by decide) (fun h5 => ?_) (fun h5 => ?_)
    · skip
      refine nk_iload_n (i := 0) dX7_floatBits_10 rfl rfl ?_
      refine nk_i2l dX7_floatBits_11 ?_
      refine nk_topl (y := lN a) (nI_l (by omega)) ?_
      refine nk_lstore_nT (i := 2) dX7_floatBits_12 rfl (by decide) ?_
      refine nk_iload_n (i := 1) dX7_floatBits_13 rfl rfl ?_
      refine nk_i2l dX7_floatBits_14 ?_
      refine nk_topl (y := lN b) (nI_l (by omega)) ?_
      refine nk_lstoreT dX7_floatBits_15 (by decide) ?_
      refine nk_bipush (v := 127) dX7_floatBits_17 (by decide) ?_
      refine nk_istoreT dX7_floatBits_19 (by decide) ?_
      refine nk_iconst (v := 0) dX7_floatBits_21 (by decide) ?_
      refine nk_istoreT dX7_floatBits_22 (by decide) ?_
      have ha : 0 < a := Nat.pos_of_ne_zero (fun e => h1 (by rw [e]; decide))
      exact (l_fb1 ha ha2 hb hb2 13 0 (Or.inl rfl) (by omega) (by omega)).to (by rw [Nat.pow_zero, Nat.mul_one]; rfl) rfl rfl
    · skip
      refine nk_iconst (v := 0) dX7_floatBits_8 (by decide) ?_
      refine nk_ireturn dX7_floatBits_9 rfl ?_
      first
      | (have ha : a = 0 := by have := nk_leI (b := 0) h1 (by omega) (by omega); omega
         subst ha
         exact ⟨rfl, rfl⟩)
      | exact absurd ((nI_ltI (a := 0) (by omega) (by omega)).mpr hb) h5
set_option maxRecDepth 20000 in
theorem l_sf {G : nk_EG} {H : nk_AH} {a b g : Nat} (hg0 : 0 < g) : ∀ (n : Nat) (u v k i : Nat) (l9 : Option Value) (h0 : v < n) (h1 : v ≤ u) (h2 : u < 2 ^ 62) (h3 : u * v < 2 ^ k) (h4 : i + k ≤ 199) (h5 : Nat.gcd u v = g), nk_J G mX7_sharedFactor 2 (nk_rl (lN g) H) 0 0 9 [some (.long (lN a)), none, some (.long (lN b)), none, some (.long (lN u)), none, some (.long (lN v)), none, some (.int (nI i)), l9, none] [] H := by
  intro n
  induction n with
  | zero => intro u v k i l9 h0 h1 h2 h3 h4 h5; omega
  | succ n ih =>
    intro u v k i l9 h0 h1 h2 h3 h4 h5
    have h200 : ¬ (200 : Int32) ≤ nI i := fun z => by have := nk_leI (a := 200) z (by omega) (by omega); omega
    refine nk_iload dX7_sharedFactor_9 rfl ?_
    refine nk_sipush (v := 200) dX7_sharedFactor_11 (by decide) ?_
    refine nk_icmpge (tgt := 45) dX7_sharedFactor_14 (by decide) (fun h14 => by first | exact absurd h14 (h200) | exact absurd (h200) h14) (fun _ => ?_)
    refine nk_lload dX7_sharedFactor_17 rfl ?_
    refine nk_lconst (v := 0) dX7_sharedFactor_19 rfl ?_
    refine nk_lcmp dX7_sharedFactor_20 ?_
    refine nk_ifeq (tgt := 45) dX7_sharedFactor_21 (by decide) (fun h21 => ?_) (fun h21 => ?_)
    · skip
      rw [lg_cmp_eq, show (0 : Int64) = lN 0 from rfl, pk_lEQ (by omega) (by omega)] at h21
      refine nk_lload dX7_sharedFactor_45 rfl ?_
      refine nk_lconst (v := 1) dX7_sharedFactor_47 rfl ?_
      refine nk_cSl kX7_310 (s_J9_max_f86c9) dX7_sharedFactor_48 rfl rfl (by decide) (Nat.le_of_ble_eq_true rfl) ?_
      refine nk_lreturn dX7_sharedFactor_51 rfl ?_
      subst h21
      rw [Nat.gcd_zero_right] at h5
      subst h5
      exact ⟨by rw [if_neg (fun z => by rw [show (1 : Int64) = lN 1 from rfl, pk_lLT (by omega) (by omega)] at z; omega)], rfl⟩
    · skip
      rw [lg_cmp_eq, show (0 : Int64) = lN 0 from rfl, pk_lEQ (by omega) (by omega)] at h21
      have hr := Nat.mod_lt u (show 0 < v by omega)
      have hh := gcd_half h1 (by omega) h3
      refine nk_lload dX7_sharedFactor_24 rfl ?_
      refine nk_lload dX7_sharedFactor_26 rfl ?_
      refine nk_lrem dX7_sharedFactor_28 (nk_lne (by omega) (by omega)) ?_
      refine nk_topl (y := lN (u % v)) (pk_lRem (by omega) (by omega) (by omega)) ?_
      refine nk_lstoreT dX7_sharedFactor_29 (by decide) ?_
      refine nk_lload dX7_sharedFactor_31 rfl ?_
      refine nk_lstoreT dX7_sharedFactor_33 (by decide) ?_
      refine nk_lload dX7_sharedFactor_35 rfl ?_
      refine nk_lstoreT dX7_sharedFactor_37 (by decide) ?_
      refine nk_iincT dX7_sharedFactor_39 rfl (nk_i1 i) (by decide) ?_
      refine nk_goto (tgt := 9) dX7_sharedFactor_42 (by decide) ?_
      exact ih v (u % v) (k - 1) (i + 1) _ (by omega) (by omega) (by omega) hh.2 (by omega) (by rw [← h5, Nat.gcd_comm u v]; exact (Nat.gcd_rec v u).symm ▸ (Nat.gcd_comm v (u % v)))
set_option maxRecDepth 20000 in
theorem s_X7_sharedFactor {G : nk_EG} {H : nk_AH} {a b : Nat} (ha : a < 2 ^ 62) (hb : 0 < b) (hb2 : b < 2 ^ 62) : nk_Sl G mX7_sharedFactor 2 [.long (lN a), .long (lN b)] H (lN (Nat.gcd a b)) H := by
  refine nk_S.of (by decide +kernel) (Nat.le_of_ble_eq_true rfl) rfl ?_
  have hr := Nat.mod_lt a hb
  have hg0 : 0 < Nat.gcd a b := Nat.gcd_pos_of_pos_right _ hb
  have hne : ¬ lg_cmp (lN b) 0 = 0 := by rw [lg_cmp_eq, show (0 : Int64) = lN 0 from rfl, pk_lEQ (by omega) (by omega)]; omega
  refine nk_lload_n (i := 0) dX7_sharedFactor_0 rfl rfl ?_
  refine nk_lstoreT dX7_sharedFactor_1 (by decide) ?_
  refine nk_lload_n (i := 2) dX7_sharedFactor_3 rfl rfl ?_
  refine nk_lstoreT dX7_sharedFactor_4 (by decide) ?_
  refine nk_iconst (v := 0) dX7_sharedFactor_6 (by decide) ?_
  refine nk_istoreT dX7_sharedFactor_7 (by decide) ?_
  refine nk_J.to (L' := [some (.long (lN a)), none, some (.long (lN b)), none, some (.long (lN a)), none, some (.long (lN b)), none, some (.int (nI 0)), none, none]) ?_ rfl rfl rfl
  refine nk_iload dX7_sharedFactor_9 rfl ?_
  refine nk_sipush (v := 200) dX7_sharedFactor_11 (by decide) ?_
  refine nk_icmpge (tgt := 45) dX7_sharedFactor_14 (by decide) (fun h14 => by first | exact absurd h14 (by decide) | exact absurd (by decide) h14) (fun _ => ?_)
  refine nk_lload dX7_sharedFactor_17 rfl ?_
  refine nk_lconst (v := 0) dX7_sharedFactor_19 rfl ?_
  refine nk_lcmp dX7_sharedFactor_20 ?_
  refine nk_ifeq (tgt := 45) dX7_sharedFactor_21 (by decide) (fun h21 => by first | exact absurd h21 (hne) | exact absurd (hne) h21) (fun _ => ?_)
  refine nk_lload dX7_sharedFactor_24 rfl ?_
  refine nk_lload dX7_sharedFactor_26 rfl ?_
  refine nk_lrem dX7_sharedFactor_28 (nk_lne hb (by omega)) ?_
  refine nk_topl (y := lN (a % b)) (pk_lRem (by omega) hb (by omega)) ?_
  refine nk_lstoreT dX7_sharedFactor_29 (by decide) ?_
  refine nk_lload dX7_sharedFactor_31 rfl ?_
  refine nk_lstoreT dX7_sharedFactor_33 (by decide) ?_
  refine nk_lload dX7_sharedFactor_35 rfl ?_
  refine nk_lstoreT dX7_sharedFactor_37 (by decide) ?_
  refine nk_iincT dX7_sharedFactor_39 rfl (nk_i1 0) (by decide) ?_
  refine nk_goto (tgt := 9) dX7_sharedFactor_42 (by decide) ?_
  exact l_sf hg0 (b + 1) b (a % b) 124 1 _ (by omega) (by omega) hb2 (sf_pr hb hb2) (by omega) sf_gc
set_option maxRecDepth 20000 in
theorem l_is0 {G : nk_EG} (hG : nk_GS G) {H : nk_AH} {s0 : Int32} {x i : Nat} (hx5 : x ≤ 5) (hi : i ≤ 6) : nk_J G mX7_isSuch 2 (nk_ri (if su 0 x = true then 1 else 0 : Int32) H) 0 0 4 [some (.int s0), some (.int (nI x)), some (.int 0), some (.int (nI i))] [] H := by
  by_cases hx : x = 0
  · subst hx
    rw [show (if su 0 0 = true then 1 else 0 : Int32) = 1 from rfl]
    refine nk_iload_n (i := 3) dX7_isSuch_4 rfl rfl ?_
    refine nk_gets 0 rfl zX7_307 dX7_isSuch_5 ?_
    refine nk_tlen dX7_isSuch_8 hG.1 rfl ?_
    refine nk_icmpge (tgt := 38) dX7_isSuch_9 (by decide) (fun h9 => ?_) (fun h9 => ?_)
    · skip
      refine nk_iload_n (i := 2) dX7_isSuch_38 rfl rfl ?_
      refine nk_iload_n (i := 1) dX7_isSuch_39 rfl rfl ?_
      refine nk_icmpne (tgt := 47) dX7_isSuch_40 (by decide) (fun h40 => by first | exact absurd h40 ((fun z => z rfl)) | exact absurd ((fun z => z rfl)) h40) (fun _ => ?_)
      refine nk_iconst (v := 1) dX7_isSuch_43 (by decide) ?_
      refine nk_goto (tgt := 48) dX7_isSuch_44 (by decide) ?_
      refine nk_zreturn dX7_isSuch_48 rfl rfl ?_
      exact ⟨rfl, rfl⟩
    · skip
      refine nk_iload_n (i := 2) dX7_isSuch_12 rfl rfl ?_
      refine nk_iload_n (i := 1) dX7_isSuch_13 rfl rfl ?_
      refine nk_icmpeq (tgt := 38) dX7_isSuch_14 (by decide) (fun h14 => ?_) (fun h14 => ?_)
      · skip
        refine nk_iload_n (i := 2) dX7_isSuch_38 rfl rfl ?_
        refine nk_iload_n (i := 1) dX7_isSuch_39 rfl rfl ?_
        refine nk_icmpne (tgt := 47) dX7_isSuch_40 (by decide) (fun h40 => by first | exact absurd h40 ((fun z => z rfl)) | exact absurd ((fun z => z rfl)) h40) (fun _ => ?_)
        refine nk_iconst (v := 1) dX7_isSuch_43 (by decide) ?_
        refine nk_goto (tgt := 48) dX7_isSuch_44 (by decide) ?_
        refine nk_zreturn dX7_isSuch_48 rfl rfl ?_
        exact ⟨rfl, rfl⟩
      · skip
        refine nk_iload_n (i := 2) dX7_isSuch_17 rfl rfl ?_
        refine nk_iconst (v := 1) dX7_isSuch_18 (by decide) ?_
        refine nk_iconst (v := 5) dX7_isSuch_19 (by decide) ?_
        refine nk_cSi kX7_57 (s_X7_within) dX7_isSuch_20 rfl rfl (by decide) (Nat.le_of_ble_eq_true rfl) ?_
        refine nk_ifeq (tgt := 38) dX7_isSuch_23 (by decide) (fun _ => ?_) (fun h23 => by first | exact absurd (rfl) h23 | exact absurd h23 (rfl))
        refine nk_iload_n (i := 2) dX7_isSuch_38 rfl rfl ?_
        refine nk_iload_n (i := 1) dX7_isSuch_39 rfl rfl ?_
        refine nk_icmpne (tgt := 47) dX7_isSuch_40 (by decide) (fun h40 => by first | exact absurd h40 ((fun z => z rfl)) | exact absurd ((fun z => z rfl)) h40) (fun _ => ?_)
        refine nk_iconst (v := 1) dX7_isSuch_43 (by decide) ?_
        refine nk_goto (tgt := 48) dX7_isSuch_44 (by decide) ?_
        refine nk_zreturn dX7_isSuch_48 rfl rfl ?_
        exact ⟨rfl, rfl⟩
  · have hne : ¬ (0 : Int32) = nI x := fun z => hx (nk_eqI (a := 0) z (by omega) (by omega)).symm
    rw [show (if su 0 x = true then 1 else 0 : Int32) = 0 from if_neg (fun z => hx (of_decide_eq_true z))]
    refine nk_iload_n (i := 3) dX7_isSuch_4 rfl rfl ?_
    refine nk_gets 0 rfl zX7_307 dX7_isSuch_5 ?_
    refine nk_tlen dX7_isSuch_8 hG.1 rfl ?_
    refine nk_icmpge (tgt := 38) dX7_isSuch_9 (by decide) (fun h9 => ?_) (fun h9 => ?_)
    · skip
      refine nk_iload_n (i := 2) dX7_isSuch_38 rfl rfl ?_
      refine nk_iload_n (i := 1) dX7_isSuch_39 rfl rfl ?_
      refine nk_icmpne (tgt := 47) dX7_isSuch_40 (by decide) (fun _ => ?_) (fun h40 => by first | exact absurd (hne) h40 | exact absurd h40 (hne))
      refine nk_iconst (v := 0) dX7_isSuch_47 (by decide) ?_
      refine nk_zreturn dX7_isSuch_48 rfl rfl ?_
      exact ⟨rfl, rfl⟩
    · skip
      refine nk_iload_n (i := 2) dX7_isSuch_12 rfl rfl ?_
      refine nk_iload_n (i := 1) dX7_isSuch_13 rfl rfl ?_
      refine nk_icmpeq (tgt := 38) dX7_isSuch_14 (by decide) (fun h14 => by first | exact absurd h14 (hne) | exact absurd (hne) h14) (fun _ => ?_)
      refine nk_iload_n (i := 2) dX7_isSuch_17 rfl rfl ?_
      refine nk_iconst (v := 1) dX7_isSuch_18 (by decide) ?_
      refine nk_iconst (v := 5) dX7_isSuch_19 (by decide) ?_
      refine nk_cSi kX7_57 (s_X7_within) dX7_isSuch_20 rfl rfl (by decide) (Nat.le_of_ble_eq_true rfl) ?_
      refine nk_ifeq (tgt := 38) dX7_isSuch_23 (by decide) (fun _ => ?_) (fun h23 => by first | exact absurd (rfl) h23 | exact absurd h23 (rfl))
      refine nk_iload_n (i := 2) dX7_isSuch_38 rfl rfl ?_
      refine nk_iload_n (i := 1) dX7_isSuch_39 rfl rfl ?_
      refine nk_icmpne (tgt := 47) dX7_isSuch_40 (by decide) (fun _ => ?_) (fun h40 => by first | exact absurd (hne) h40 | exact absurd h40 (hne))
      refine nk_iconst (v := 0) dX7_isSuch_47 (by decide) ?_
      refine nk_zreturn dX7_isSuch_48 rfl rfl ?_
      exact ⟨rfl, rfl⟩
set_option maxRecDepth 20000 in
theorem l_is1 {G : nk_EG} (hG : nk_GS G) {H : nk_AH} {s0 : Int32} {x i : Nat} (hx5 : x ≤ 5) (hi : i ≤ 5) : nk_J G mX7_isSuch 2 (nk_ri (if su 1 x = true then 1 else 0 : Int32) H) 0 0 4 [some (.int s0), some (.int (nI x)), some (.int 1), some (.int (nI i))] [] H := by
  have h6 : ¬ nI 6 ≤ nI i := fun z => by have := nk_leI z (by omega) (by omega); omega
  by_cases hx : x = 1
  · subst hx
    rw [show (if su 1 1 = true then 1 else 0 : Int32) = 1 from rfl]
    refine nk_iload_n (i := 3) dX7_isSuch_4 rfl rfl ?_
    refine nk_gets 0 rfl zX7_307 dX7_isSuch_5 ?_
    refine nk_tlen dX7_isSuch_8 hG.1 rfl ?_
    refine nk_icmpge (tgt := 38) dX7_isSuch_9 (by decide) (fun h9 => by first | exact absurd h9 (h6) | exact absurd (h6) h9) (fun _ => ?_)
    refine nk_iload_n (i := 2) dX7_isSuch_12 rfl rfl ?_
    refine nk_iload_n (i := 1) dX7_isSuch_13 rfl rfl ?_
    refine nk_icmpeq (tgt := 38) dX7_isSuch_14 (by decide) (fun _ => ?_) (fun h14 => by first | exact absurd (rfl) h14 | exact absurd h14 (rfl))
    refine nk_iload_n (i := 2) dX7_isSuch_38 rfl rfl ?_
    refine nk_iload_n (i := 1) dX7_isSuch_39 rfl rfl ?_
    refine nk_icmpne (tgt := 47) dX7_isSuch_40 (by decide) (fun h40 => by first | exact absurd h40 ((fun z => z rfl)) | exact absurd ((fun z => z rfl)) h40) (fun _ => ?_)
    refine nk_iconst (v := 1) dX7_isSuch_43 (by decide) ?_
    refine nk_goto (tgt := 48) dX7_isSuch_44 (by decide) ?_
    refine nk_zreturn dX7_isSuch_48 rfl rfl ?_
    exact ⟨rfl, rfl⟩
  · have hne : ¬ (1 : Int32) = nI x := fun z => hx (nk_eqI (a := 1) z (by omega) (by omega)).symm
    rw [show (if su 1 x = true then 1 else 0 : Int32) = (if su 0 x = true then 1 else 0 : Int32) by rw [show su 1 x = su 0 x from by show (decide (x = 1) || su 0 x) = _; rw [decide_eq_false hx, Bool.false_or]]]
    refine nk_iload_n (i := 3) dX7_isSuch_4 rfl rfl ?_
    refine nk_gets 0 rfl zX7_307 dX7_isSuch_5 ?_
    refine nk_tlen dX7_isSuch_8 hG.1 rfl ?_
    refine nk_icmpge (tgt := 38) dX7_isSuch_9 (by decide) (fun h9 => by first | exact absurd h9 (h6) | exact absurd (h6) h9) (fun _ => ?_)
    refine nk_iload_n (i := 2) dX7_isSuch_12 rfl rfl ?_
    refine nk_iload_n (i := 1) dX7_isSuch_13 rfl rfl ?_
    refine nk_icmpeq (tgt := 38) dX7_isSuch_14 (by decide) (fun h14 => by first | exact absurd h14 (hne) | exact absurd (hne) h14) (fun _ => ?_)
    refine nk_iload_n (i := 2) dX7_isSuch_17 rfl rfl ?_
    refine nk_iconst (v := 1) dX7_isSuch_18 (by decide) ?_
    refine nk_iconst (v := 5) dX7_isSuch_19 (by decide) ?_
    refine nk_cSi kX7_57 (s_X7_within) dX7_isSuch_20 rfl rfl (by decide) (Nat.le_of_ble_eq_true rfl) ?_
    refine nk_ifeq (tgt := 38) dX7_isSuch_23 (by decide) (fun h23 => by first | exact absurd h23 (by decide) | exact absurd (by decide) h23) (fun _ => ?_)
    refine nk_gets 0 rfl zX7_307 dX7_isSuch_26 ?_
    refine nk_iload_n (i := 2) dX7_isSuch_29 rfl rfl ?_
    refine nk_tldN (j := 1) dX7_isSuch_30 hG.1 (rfl) (by omega) (by decide) ?_
    refine nk_top (y := 0) (rfl) ?_
    refine nk_istore_nT (i := 2) dX7_isSuch_31 rfl (by decide) ?_
    refine nk_iincT dX7_isSuch_32 rfl (nk_i1 i) (by decide) ?_
    refine nk_goto (tgt := 4) dX7_isSuch_35 (by decide) ?_
    exact l_is0 hG hx5 (by omega)
set_option maxRecDepth 20000 in
theorem l_is4 {G : nk_EG} (hG : nk_GS G) {H : nk_AH} {s0 : Int32} {x i : Nat} (hx5 : x ≤ 5) (hi : i ≤ 5) : nk_J G mX7_isSuch 2 (nk_ri (if su 4 x = true then 1 else 0 : Int32) H) 0 0 4 [some (.int s0), some (.int (nI x)), some (.int 4), some (.int (nI i))] [] H := by
  have h6 : ¬ nI 6 ≤ nI i := fun z => by have := nk_leI z (by omega) (by omega); omega
  by_cases hx : x = 4
  · subst hx
    rw [show (if su 4 4 = true then 1 else 0 : Int32) = 1 from rfl]
    refine nk_iload_n (i := 3) dX7_isSuch_4 rfl rfl ?_
    refine nk_gets 0 rfl zX7_307 dX7_isSuch_5 ?_
    refine nk_tlen dX7_isSuch_8 hG.1 rfl ?_
    refine nk_icmpge (tgt := 38) dX7_isSuch_9 (by decide) (fun h9 => by first | exact absurd h9 (h6) | exact absurd (h6) h9) (fun _ => ?_)
    refine nk_iload_n (i := 2) dX7_isSuch_12 rfl rfl ?_
    refine nk_iload_n (i := 1) dX7_isSuch_13 rfl rfl ?_
    refine nk_icmpeq (tgt := 38) dX7_isSuch_14 (by decide) (fun _ => ?_) (fun h14 => by first | exact absurd (rfl) h14 | exact absurd h14 (rfl))
    refine nk_iload_n (i := 2) dX7_isSuch_38 rfl rfl ?_
    refine nk_iload_n (i := 1) dX7_isSuch_39 rfl rfl ?_
    refine nk_icmpne (tgt := 47) dX7_isSuch_40 (by decide) (fun h40 => by first | exact absurd h40 ((fun z => z rfl)) | exact absurd ((fun z => z rfl)) h40) (fun _ => ?_)
    refine nk_iconst (v := 1) dX7_isSuch_43 (by decide) ?_
    refine nk_goto (tgt := 48) dX7_isSuch_44 (by decide) ?_
    refine nk_zreturn dX7_isSuch_48 rfl rfl ?_
    exact ⟨rfl, rfl⟩
  · have hne : ¬ (4 : Int32) = nI x := fun z => hx (nk_eqI (a := 4) z (by omega) (by omega)).symm
    rw [show (if su 4 x = true then 1 else 0 : Int32) = (if su 0 x = true then 1 else 0 : Int32) by rw [show su 4 x = su 0 x from by show (decide (x = 4) || su 0 x) = _; rw [decide_eq_false hx, Bool.false_or]]]
    refine nk_iload_n (i := 3) dX7_isSuch_4 rfl rfl ?_
    refine nk_gets 0 rfl zX7_307 dX7_isSuch_5 ?_
    refine nk_tlen dX7_isSuch_8 hG.1 rfl ?_
    refine nk_icmpge (tgt := 38) dX7_isSuch_9 (by decide) (fun h9 => by first | exact absurd h9 (h6) | exact absurd (h6) h9) (fun _ => ?_)
    refine nk_iload_n (i := 2) dX7_isSuch_12 rfl rfl ?_
    refine nk_iload_n (i := 1) dX7_isSuch_13 rfl rfl ?_
    refine nk_icmpeq (tgt := 38) dX7_isSuch_14 (by decide) (fun h14 => by first | exact absurd h14 (hne) | exact absurd (hne) h14) (fun _ => ?_)
    refine nk_iload_n (i := 2) dX7_isSuch_17 rfl rfl ?_
    refine nk_iconst (v := 1) dX7_isSuch_18 (by decide) ?_
    refine nk_iconst (v := 5) dX7_isSuch_19 (by decide) ?_
    refine nk_cSi kX7_57 (s_X7_within) dX7_isSuch_20 rfl rfl (by decide) (Nat.le_of_ble_eq_true rfl) ?_
    refine nk_ifeq (tgt := 38) dX7_isSuch_23 (by decide) (fun h23 => by first | exact absurd h23 (by decide) | exact absurd (by decide) h23) (fun _ => ?_)
    refine nk_gets 0 rfl zX7_307 dX7_isSuch_26 ?_
    refine nk_iload_n (i := 2) dX7_isSuch_29 rfl rfl ?_
    refine nk_tldN (j := 4) dX7_isSuch_30 hG.1 (rfl) (by omega) (by decide) ?_
    refine nk_top (y := 0) (rfl) ?_
    refine nk_istore_nT (i := 2) dX7_isSuch_31 rfl (by decide) ?_
    refine nk_iincT dX7_isSuch_32 rfl (nk_i1 i) (by decide) ?_
    refine nk_goto (tgt := 4) dX7_isSuch_35 (by decide) ?_
    exact l_is0 hG hx5 (by omega)
set_option maxRecDepth 20000 in
theorem l_is2 {G : nk_EG} (hG : nk_GS G) {H : nk_AH} {s0 : Int32} {x i : Nat} (hx5 : x ≤ 5) (hi : i ≤ 4) : nk_J G mX7_isSuch 2 (nk_ri (if su 2 x = true then 1 else 0 : Int32) H) 0 0 4 [some (.int s0), some (.int (nI x)), some (.int 2), some (.int (nI i))] [] H := by
  have h6 : ¬ nI 6 ≤ nI i := fun z => by have := nk_leI z (by omega) (by omega); omega
  by_cases hx : x = 2
  · subst hx
    rw [show (if su 2 2 = true then 1 else 0 : Int32) = 1 from rfl]
    refine nk_iload_n (i := 3) dX7_isSuch_4 rfl rfl ?_
    refine nk_gets 0 rfl zX7_307 dX7_isSuch_5 ?_
    refine nk_tlen dX7_isSuch_8 hG.1 rfl ?_
    refine nk_icmpge (tgt := 38) dX7_isSuch_9 (by decide) (fun h9 => by first | exact absurd h9 (h6) | exact absurd (h6) h9) (fun _ => ?_)
    refine nk_iload_n (i := 2) dX7_isSuch_12 rfl rfl ?_
    refine nk_iload_n (i := 1) dX7_isSuch_13 rfl rfl ?_
    refine nk_icmpeq (tgt := 38) dX7_isSuch_14 (by decide) (fun _ => ?_) (fun h14 => by first | exact absurd (rfl) h14 | exact absurd h14 (rfl))
    refine nk_iload_n (i := 2) dX7_isSuch_38 rfl rfl ?_
    refine nk_iload_n (i := 1) dX7_isSuch_39 rfl rfl ?_
    refine nk_icmpne (tgt := 47) dX7_isSuch_40 (by decide) (fun h40 => by first | exact absurd h40 ((fun z => z rfl)) | exact absurd ((fun z => z rfl)) h40) (fun _ => ?_)
    refine nk_iconst (v := 1) dX7_isSuch_43 (by decide) ?_
    refine nk_goto (tgt := 48) dX7_isSuch_44 (by decide) ?_
    refine nk_zreturn dX7_isSuch_48 rfl rfl ?_
    exact ⟨rfl, rfl⟩
  · have hne : ¬ (2 : Int32) = nI x := fun z => hx (nk_eqI (a := 2) z (by omega) (by omega)).symm
    rw [show (if su 2 x = true then 1 else 0 : Int32) = (if su 1 x = true then 1 else 0 : Int32) by rw [show su 2 x = su 1 x from by show (decide (x = 2) || su 1 x) = _; rw [decide_eq_false hx, Bool.false_or]]]
    refine nk_iload_n (i := 3) dX7_isSuch_4 rfl rfl ?_
    refine nk_gets 0 rfl zX7_307 dX7_isSuch_5 ?_
    refine nk_tlen dX7_isSuch_8 hG.1 rfl ?_
    refine nk_icmpge (tgt := 38) dX7_isSuch_9 (by decide) (fun h9 => by first | exact absurd h9 (h6) | exact absurd (h6) h9) (fun _ => ?_)
    refine nk_iload_n (i := 2) dX7_isSuch_12 rfl rfl ?_
    refine nk_iload_n (i := 1) dX7_isSuch_13 rfl rfl ?_
    refine nk_icmpeq (tgt := 38) dX7_isSuch_14 (by decide) (fun h14 => by first | exact absurd h14 (hne) | exact absurd (hne) h14) (fun _ => ?_)
    refine nk_iload_n (i := 2) dX7_isSuch_17 rfl rfl ?_
    refine nk_iconst (v := 1) dX7_isSuch_18 (by decide) ?_
    refine nk_iconst (v := 5) dX7_isSuch_19 (by decide) ?_
    refine nk_cSi kX7_57 (s_X7_within) dX7_isSuch_20 rfl rfl (by decide) (Nat.le_of_ble_eq_true rfl) ?_
    refine nk_ifeq (tgt := 38) dX7_isSuch_23 (by decide) (fun h23 => by first | exact absurd h23 (by decide) | exact absurd (by decide) h23) (fun _ => ?_)
    refine nk_gets 0 rfl zX7_307 dX7_isSuch_26 ?_
    refine nk_iload_n (i := 2) dX7_isSuch_29 rfl rfl ?_
    refine nk_tldN (j := 2) dX7_isSuch_30 hG.1 (rfl) (by omega) (by decide) ?_
    refine nk_top (y := 1) (rfl) ?_
    refine nk_istore_nT (i := 2) dX7_isSuch_31 rfl (by decide) ?_
    refine nk_iincT dX7_isSuch_32 rfl (nk_i1 i) (by decide) ?_
    refine nk_goto (tgt := 4) dX7_isSuch_35 (by decide) ?_
    exact l_is1 hG hx5 (by omega)
set_option maxRecDepth 20000 in
theorem l_is3 {G : nk_EG} (hG : nk_GS G) {H : nk_AH} {s0 : Int32} {x i : Nat} (hx5 : x ≤ 5) (hi : i ≤ 4) : nk_J G mX7_isSuch 2 (nk_ri (if su 3 x = true then 1 else 0 : Int32) H) 0 0 4 [some (.int s0), some (.int (nI x)), some (.int 3), some (.int (nI i))] [] H := by
  have h6 : ¬ nI 6 ≤ nI i := fun z => by have := nk_leI z (by omega) (by omega); omega
  by_cases hx : x = 3
  · subst hx
    rw [show (if su 3 3 = true then 1 else 0 : Int32) = 1 from rfl]
    refine nk_iload_n (i := 3) dX7_isSuch_4 rfl rfl ?_
    refine nk_gets 0 rfl zX7_307 dX7_isSuch_5 ?_
    refine nk_tlen dX7_isSuch_8 hG.1 rfl ?_
    refine nk_icmpge (tgt := 38) dX7_isSuch_9 (by decide) (fun h9 => by first | exact absurd h9 (h6) | exact absurd (h6) h9) (fun _ => ?_)
    refine nk_iload_n (i := 2) dX7_isSuch_12 rfl rfl ?_
    refine nk_iload_n (i := 1) dX7_isSuch_13 rfl rfl ?_
    refine nk_icmpeq (tgt := 38) dX7_isSuch_14 (by decide) (fun _ => ?_) (fun h14 => by first | exact absurd (rfl) h14 | exact absurd h14 (rfl))
    refine nk_iload_n (i := 2) dX7_isSuch_38 rfl rfl ?_
    refine nk_iload_n (i := 1) dX7_isSuch_39 rfl rfl ?_
    refine nk_icmpne (tgt := 47) dX7_isSuch_40 (by decide) (fun h40 => by first | exact absurd h40 ((fun z => z rfl)) | exact absurd ((fun z => z rfl)) h40) (fun _ => ?_)
    refine nk_iconst (v := 1) dX7_isSuch_43 (by decide) ?_
    refine nk_goto (tgt := 48) dX7_isSuch_44 (by decide) ?_
    refine nk_zreturn dX7_isSuch_48 rfl rfl ?_
    exact ⟨rfl, rfl⟩
  · have hne : ¬ (3 : Int32) = nI x := fun z => hx (nk_eqI (a := 3) z (by omega) (by omega)).symm
    rw [show (if su 3 x = true then 1 else 0 : Int32) = (if su 1 x = true then 1 else 0 : Int32) by rw [show su 3 x = su 1 x from by show (decide (x = 3) || su 1 x) = _; rw [decide_eq_false hx, Bool.false_or]]]
    refine nk_iload_n (i := 3) dX7_isSuch_4 rfl rfl ?_
    refine nk_gets 0 rfl zX7_307 dX7_isSuch_5 ?_
    refine nk_tlen dX7_isSuch_8 hG.1 rfl ?_
    refine nk_icmpge (tgt := 38) dX7_isSuch_9 (by decide) (fun h9 => by first | exact absurd h9 (h6) | exact absurd (h6) h9) (fun _ => ?_)
    refine nk_iload_n (i := 2) dX7_isSuch_12 rfl rfl ?_
    refine nk_iload_n (i := 1) dX7_isSuch_13 rfl rfl ?_
    refine nk_icmpeq (tgt := 38) dX7_isSuch_14 (by decide) (fun h14 => by first | exact absurd h14 (hne) | exact absurd (hne) h14) (fun _ => ?_)
    refine nk_iload_n (i := 2) dX7_isSuch_17 rfl rfl ?_
    refine nk_iconst (v := 1) dX7_isSuch_18 (by decide) ?_
    refine nk_iconst (v := 5) dX7_isSuch_19 (by decide) ?_
    refine nk_cSi kX7_57 (s_X7_within) dX7_isSuch_20 rfl rfl (by decide) (Nat.le_of_ble_eq_true rfl) ?_
    refine nk_ifeq (tgt := 38) dX7_isSuch_23 (by decide) (fun h23 => by first | exact absurd h23 (by decide) | exact absurd (by decide) h23) (fun _ => ?_)
    refine nk_gets 0 rfl zX7_307 dX7_isSuch_26 ?_
    refine nk_iload_n (i := 2) dX7_isSuch_29 rfl rfl ?_
    refine nk_tldN (j := 3) dX7_isSuch_30 hG.1 (rfl) (by omega) (by decide) ?_
    refine nk_top (y := 1) (rfl) ?_
    refine nk_istore_nT (i := 2) dX7_isSuch_31 rfl (by decide) ?_
    refine nk_iincT dX7_isSuch_32 rfl (nk_i1 i) (by decide) ?_
    refine nk_goto (tgt := 4) dX7_isSuch_35 (by decide) ?_
    exact l_is1 hG hx5 (by omega)
set_option maxRecDepth 20000 in
theorem l_is5 {G : nk_EG} (hG : nk_GS G) {H : nk_AH} {s0 : Int32} {x i : Nat} (hx5 : x ≤ 5) (hi : i ≤ 4) : nk_J G mX7_isSuch 2 (nk_ri (if su 5 x = true then 1 else 0 : Int32) H) 0 0 4 [some (.int s0), some (.int (nI x)), some (.int 5), some (.int (nI i))] [] H := by
  have h6 : ¬ nI 6 ≤ nI i := fun z => by have := nk_leI z (by omega) (by omega); omega
  by_cases hx : x = 5
  · subst hx
    rw [show (if su 5 5 = true then 1 else 0 : Int32) = 1 from rfl]
    refine nk_iload_n (i := 3) dX7_isSuch_4 rfl rfl ?_
    refine nk_gets 0 rfl zX7_307 dX7_isSuch_5 ?_
    refine nk_tlen dX7_isSuch_8 hG.1 rfl ?_
    refine nk_icmpge (tgt := 38) dX7_isSuch_9 (by decide) (fun h9 => by first | exact absurd h9 (h6) | exact absurd (h6) h9) (fun _ => ?_)
    refine nk_iload_n (i := 2) dX7_isSuch_12 rfl rfl ?_
    refine nk_iload_n (i := 1) dX7_isSuch_13 rfl rfl ?_
    refine nk_icmpeq (tgt := 38) dX7_isSuch_14 (by decide) (fun _ => ?_) (fun h14 => by first | exact absurd (rfl) h14 | exact absurd h14 (rfl))
    refine nk_iload_n (i := 2) dX7_isSuch_38 rfl rfl ?_
    refine nk_iload_n (i := 1) dX7_isSuch_39 rfl rfl ?_
    refine nk_icmpne (tgt := 47) dX7_isSuch_40 (by decide) (fun h40 => by first | exact absurd h40 ((fun z => z rfl)) | exact absurd ((fun z => z rfl)) h40) (fun _ => ?_)
    refine nk_iconst (v := 1) dX7_isSuch_43 (by decide) ?_
    refine nk_goto (tgt := 48) dX7_isSuch_44 (by decide) ?_
    refine nk_zreturn dX7_isSuch_48 rfl rfl ?_
    exact ⟨rfl, rfl⟩
  · have hne : ¬ (5 : Int32) = nI x := fun z => hx (nk_eqI (a := 5) z (by omega) (by omega)).symm
    rw [show (if su 5 x = true then 1 else 0 : Int32) = (if su 4 x = true then 1 else 0 : Int32) by rw [show su 5 x = su 4 x from by show (decide (x = 5) || su 4 x) = _; rw [decide_eq_false hx, Bool.false_or]]]
    refine nk_iload_n (i := 3) dX7_isSuch_4 rfl rfl ?_
    refine nk_gets 0 rfl zX7_307 dX7_isSuch_5 ?_
    refine nk_tlen dX7_isSuch_8 hG.1 rfl ?_
    refine nk_icmpge (tgt := 38) dX7_isSuch_9 (by decide) (fun h9 => by first | exact absurd h9 (h6) | exact absurd (h6) h9) (fun _ => ?_)
    refine nk_iload_n (i := 2) dX7_isSuch_12 rfl rfl ?_
    refine nk_iload_n (i := 1) dX7_isSuch_13 rfl rfl ?_
    refine nk_icmpeq (tgt := 38) dX7_isSuch_14 (by decide) (fun h14 => by first | exact absurd h14 (hne) | exact absurd (hne) h14) (fun _ => ?_)
    refine nk_iload_n (i := 2) dX7_isSuch_17 rfl rfl ?_
    refine nk_iconst (v := 1) dX7_isSuch_18 (by decide) ?_
    refine nk_iconst (v := 5) dX7_isSuch_19 (by decide) ?_
    refine nk_cSi kX7_57 (s_X7_within) dX7_isSuch_20 rfl rfl (by decide) (Nat.le_of_ble_eq_true rfl) ?_
    refine nk_ifeq (tgt := 38) dX7_isSuch_23 (by decide) (fun h23 => by first | exact absurd h23 (by decide) | exact absurd (by decide) h23) (fun _ => ?_)
    refine nk_gets 0 rfl zX7_307 dX7_isSuch_26 ?_
    refine nk_iload_n (i := 2) dX7_isSuch_29 rfl rfl ?_
    refine nk_tldN (j := 5) dX7_isSuch_30 hG.1 (rfl) (by omega) (by decide) ?_
    refine nk_top (y := 4) (rfl) ?_
    refine nk_istore_nT (i := 2) dX7_isSuch_31 rfl (by decide) ?_
    refine nk_iincT dX7_isSuch_32 rfl (nk_i1 i) (by decide) ?_
    refine nk_goto (tgt := 4) dX7_isSuch_35 (by decide) ?_
    exact l_is4 hG hx5 (by omega)
set_option maxRecDepth 20000 in
theorem s_X7_isSuch {G : nk_EG} (hG : nk_GS G) {H : nk_AH} {e x : Nat} (he1 : 1 ≤ e) (he5 : e ≤ 5) (hx5 : x ≤ 5) : nk_Si G mX7_isSuch 2 [.int (nI e), .int (nI x)] H (if sp_of (nI e) (nI x) then 1 else 0) H := by
  refine nk_S.of (by decide +kernel) (Nat.le_of_ble_eq_true rfl) rfl ?_
  have hso := su_of e he1 he5 x hx5
  rw [show (if sp_of (nI e) (nI x) then (1 : Int32) else 0) = if su e x = true then 1 else 0 from nk_ifr hso]
  refine nk_iload_n (i := 0) dX7_isSuch_0 rfl rfl ?_
  refine nk_istore_nT (i := 2) dX7_isSuch_1 rfl (by decide) ?_
  refine nk_iconst (v := 0) dX7_isSuch_2 (by decide) ?_
  refine nk_istore_nT (i := 3) dX7_isSuch_3 rfl (by decide) ?_
  have he : e = 1 ∨ e = 2 ∨ e = 3 ∨ e = 4 ∨ e = 5 := by omega
  rcases he with rfl | rfl | rfl | rfl | rfl
  · exact l_is1 hG hx5 (i := 0) (by omega)
  · exact l_is2 hG hx5 (i := 0) (by omega)
  · exact l_is3 hG hx5 (i := 0) (by omega)
  · exact l_is4 hG hx5 (i := 0) (by omega)
  · exact l_is5 hG hx5 (i := 0) (by omega)

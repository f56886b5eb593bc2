/-! the library: functions of a word, the greater, the lesser -/
def jd_a (x : Nat) : Nat := (x + 4294967296 - (x / 2 &&& 1431655765)) % 4294967296
def jd_b (a : Nat) : Nat := ((a &&& 858993459) + (a / 4 &&& 858993459)) % 4294967296
def jd_c (b : Nat) : Nat := (b + b / 16) % 4294967296 &&& 252645135
def jd_e (c : Nat) : Nat := (c + c / 256) % 4294967296
def jd_g (e : Nat) : Nat := (e + e / 65536) % 4294967296
theorem jd_bc_def (x : Nat) : jd_bc x = jd_g (jd_e (jd_c (jd_b (jd_a x)))) &&& 63 := rfl
theorem jd_a_lt (x : Nat) : jd_a x < 4294967296 := Nat.mod_lt _ (by omega)
theorem jd_b_lt (x : Nat) : jd_b x < 4294967296 := Nat.mod_lt _ (by omega)
theorem jd_c_lt (x : Nat) : jd_c x < 4294967296 := Nat.lt_of_le_of_lt Nat.and_le_right (by omega)
theorem jd_e_lt (x : Nat) : jd_e x < 4294967296 := Nat.mod_lt _ (by omega)
set_option maxRecDepth 20000 in
theorem s_J6_bitCount_0f7a4 {G : nk_EG} {x : Int32} {H : nk_AH} : nk_Si G mJ6_bitCount_0f7a4 1 [.int x] H (nI (fb_ct (bt x) 32)) H := by
  refine nk_S.of (by decide +kernel) (Nat.le_of_ble_eq_true rfl) rfl ?_
  obtain ⟨v, hv, rfl⟩ : ∃ v, v < 4294967296 ∧ x = nI v := ⟨nU x, nU_lt x, (nI_nU x).symm⟩
  rw [← jd_bc_ct hv, jd_bc_def]
  refine nk_iload_n (i := 0) dJ6_bitCount_0f7a4_0 rfl rfl ?_
  refine nk_iload_n (i := 0) dJ6_bitCount_0f7a4_1 rfl rfl ?_
  refine nk_iconst (v := 1) dJ6_bitCount_0f7a4_2 (by decide) ?_
  refine nk_iushr dJ6_bitCount_0f7a4_3 ?_
  refine nk_top (y := nI (v / 2)) (nI_ju (n := 1) hv (by omega)) ?_
  refine nk_ldcw qJ6_265 dJ6_bitCount_0f7a4_4 ?_
  refine nk_iand dJ6_bitCount_0f7a4_7 ?_
  refine nk_top (y := nI (v / 2 &&& 1431655765)) (fa_and _ 1431655765) ?_
  refine nk_isub dJ6_bitCount_0f7a4_8 ?_
  refine nk_top (y := nI (jd_a v)) (nI_subm (Nat.le_trans Nat.and_le_right (by omega))) ?_
  refine nk_istore_nT (i := 0) dJ6_bitCount_0f7a4_9 rfl (by decide) ?_
  refine nk_iload_n (i := 0) dJ6_bitCount_0f7a4_10 rfl rfl ?_
  refine nk_ldcw qJ6_266 dJ6_bitCount_0f7a4_11 ?_
  refine nk_iand dJ6_bitCount_0f7a4_14 ?_
  refine nk_top (y := nI (jd_a v &&& 858993459)) (fa_and _ 858993459) ?_
  refine nk_iload_n (i := 0) dJ6_bitCount_0f7a4_15 rfl rfl ?_
  refine nk_iconst (v := 2) dJ6_bitCount_0f7a4_16 (by decide) ?_
  refine nk_iushr dJ6_bitCount_0f7a4_17 ?_
  refine nk_top (y := nI (jd_a v / 4)) (nI_ju (n := 2) (jd_a_lt v) (by omega)) ?_
  refine nk_ldcw qJ6_266 dJ6_bitCount_0f7a4_18 ?_
  refine nk_iand dJ6_bitCount_0f7a4_21 ?_
  refine nk_top (y := nI (jd_a v / 4 &&& 858993459)) (fa_and _ 858993459) ?_
  refine nk_iadd dJ6_bitCount_0f7a4_22 ?_
  refine nk_top (y := nI (jd_b (jd_a v))) (nI_addm _ _) ?_
  refine nk_istore_nT (i := 0) dJ6_bitCount_0f7a4_23 rfl (by decide) ?_
  refine nk_iload_n (i := 0) dJ6_bitCount_0f7a4_24 rfl rfl ?_
  refine nk_iload_n (i := 0) dJ6_bitCount_0f7a4_25 rfl rfl ?_
  refine nk_iconst (v := 4) dJ6_bitCount_0f7a4_26 (by decide) ?_
  refine nk_iushr dJ6_bitCount_0f7a4_27 ?_
  refine nk_top (y := nI (jd_b (jd_a v) / 16)) (nI_ju (n := 4) (jd_b_lt _) (by omega)) ?_
  refine nk_iadd dJ6_bitCount_0f7a4_28 ?_
  refine nk_top (y := nI ((jd_b (jd_a v) + jd_b (jd_a v) / 16) % 4294967296)) (nI_addm _ _) ?_
  refine nk_ldcw qJ6_267 dJ6_bitCount_0f7a4_29 ?_
  refine nk_iand dJ6_bitCount_0f7a4_32 ?_
  refine nk_top (y := nI (jd_c (jd_b (jd_a v)))) (fa_and _ 252645135) ?_
  refine nk_istore_nT (i := 0) dJ6_bitCount_0f7a4_33 rfl (by decide) ?_
  refine nk_iload_n (i := 0) dJ6_bitCount_0f7a4_34 rfl rfl ?_
  refine nk_iload_n (i := 0) dJ6_bitCount_0f7a4_35 rfl rfl ?_
  refine nk_bipush (v := 8) dJ6_bitCount_0f7a4_36 (by decide) ?_
  refine nk_iushr dJ6_bitCount_0f7a4_38 ?_
  refine nk_top (y := nI (jd_c (jd_b (jd_a v)) / 256)) (nI_ju (n := 8) (jd_c_lt _) (by omega)) ?_
  refine nk_iadd dJ6_bitCount_0f7a4_39 ?_
  refine nk_top (y := nI (jd_e (jd_c (jd_b (jd_a v))))) (nI_addm _ _) ?_
  refine nk_istore_nT (i := 0) dJ6_bitCount_0f7a4_40 rfl (by decide) ?_
  refine nk_iload_n (i := 0) dJ6_bitCount_0f7a4_41 rfl rfl ?_
  refine nk_iload_n (i := 0) dJ6_bitCount_0f7a4_42 rfl rfl ?_
  refine nk_bipush (v := 16) dJ6_bitCount_0f7a4_43 (by decide) ?_
  refine nk_iushr dJ6_bitCount_0f7a4_45 ?_
  refine nk_top (y := nI (jd_e (jd_c (jd_b (jd_a v))) / 65536)) (nI_ju (n := 16) (jd_e_lt _) (by omega)) ?_
  refine nk_iadd dJ6_bitCount_0f7a4_46 ?_
  refine nk_top (y := nI (jd_g (jd_e (jd_c (jd_b (jd_a v)))))) (nI_addm _ _) ?_
  refine nk_istore_nT (i := 0) dJ6_bitCount_0f7a4_47 rfl (by decide) ?_
  refine nk_iload_n (i := 0) dJ6_bitCount_0f7a4_48 rfl rfl ?_
  refine nk_bipush (v := 63) dJ6_bitCount_0f7a4_49 (by decide) ?_
  refine nk_iand dJ6_bitCount_0f7a4_51 ?_
  refine nk_top (y := nI (jd_g (jd_e (jd_c (jd_b (jd_a v)))) &&& 63)) (fa_and _ 63) ?_
  refine nk_ireturn dJ6_bitCount_0f7a4_52 rfl ?_
  exact ⟨rfl, rfl⟩
set_option maxRecDepth 20000 in
theorem t_jt4 {G : nk_EG} {H : nk_AH} {n i : Int32} : nk_J G mJ6_numberOfTrailingZeros_0f7a4 1 (nk_ri (jt4 n i) H) 0 0 74 [some (.int i), some (.int n)] [] H := by
  refine nk_iload_n (i := 1) dJ6_numberOfTrailingZeros_0f7a4_74 rfl rfl ?_
  refine nk_iload_n (i := 0) dJ6_numberOfTrailingZeros_0f7a4_75 rfl rfl ?_
  refine nk_iconst (v := 1) dJ6_numberOfTrailingZeros_0f7a4_76 (by decide) ?_
  refine nk_iushr dJ6_numberOfTrailingZeros_0f7a4_77 ?_
  refine nk_iadd dJ6_numberOfTrailingZeros_0f7a4_78 ?_
  refine nk_ireturn dJ6_numberOfTrailingZeros_0f7a4_79 rfl ?_
  exact ⟨rfl, rfl⟩
set_option maxRecDepth 20000 in
theorem t_jt3 {G : nk_EG} {H : nk_AH} {n i : Int32} : nk_J G mJ6_numberOfTrailingZeros_0f7a4 1 (nk_ri (jt3 n i) H) 0 0 62 [some (.int i), some (.int n)] [] H := by
  refine nk_iload_n (i := 0) dJ6_numberOfTrailingZeros_0f7a4_62 rfl rfl ?_
  refine nk_iconst (v := 4) dJ6_numberOfTrailingZeros_0f7a4_63 (by decide) ?_
  refine nk_icmple (tgt := 74) dJ6_numberOfTrailingZeros_0f7a4_64 (by decide) (fun h64 => ?_) (fun h64 => ?_)
  · skip
    first
    | (unfold jt3; rw [if_pos h64]; exact t_jt4)
    | (unfold jt3; rw [if_neg h64]; exact t_jt4)
  · skip
    refine nk_iincT dJ6_numberOfTrailingZeros_0f7a4_67 rfl (rfl) (by decide) ?_
    refine nk_iload_n (i := 0) dJ6_numberOfTrailingZeros_0f7a4_70 rfl rfl ?_
    refine nk_iconst (v := 2) dJ6_numberOfTrailingZeros_0f7a4_71 (by decide) ?_
    refine nk_iushr dJ6_numberOfTrailingZeros_0f7a4_72 ?_
    refine nk_istore_nT (i := 0) dJ6_numberOfTrailingZeros_0f7a4_73 rfl (by decide) ?_
    first
    | (unfold jt3; rw [if_pos h64]; exact t_jt4)
    | (unfold jt3; rw [if_neg h64]; exact t_jt4)
set_option maxRecDepth 20000 in
theorem t_jt2 {G : nk_EG} {H : nk_AH} {n i : Int32} : nk_J G mJ6_numberOfTrailingZeros_0f7a4 1 (nk_ri (jt2 n i) H) 0 0 49 [some (.int i), some (.int n)] [] H := by
  refine nk_iload_n (i := 0) dJ6_numberOfTrailingZeros_0f7a4_49 rfl rfl ?_
  refine nk_bipush (v := 16) dJ6_numberOfTrailingZeros_0f7a4_50 (by decide) ?_
  refine nk_icmple (tgt := 62) dJ6_numberOfTrailingZeros_0f7a4_52 (by decide) (fun h52 => ?_) (fun h52 => ?_)
  · skip
    first
    | (unfold jt2; rw [if_pos h52]; exact t_jt3)
    | (unfold jt2; rw [if_neg h52]; exact t_jt3)
  · skip
    refine nk_iincT dJ6_numberOfTrailingZeros_0f7a4_55 rfl (rfl) (by decide) ?_
    refine nk_iload_n (i := 0) dJ6_numberOfTrailingZeros_0f7a4_58 rfl rfl ?_
    refine nk_iconst (v := 4) dJ6_numberOfTrailingZeros_0f7a4_59 (by decide) ?_
    refine nk_iushr dJ6_numberOfTrailingZeros_0f7a4_60 ?_
    refine nk_istore_nT (i := 0) dJ6_numberOfTrailingZeros_0f7a4_61 rfl (by decide) ?_
    first
    | (unfold jt2; rw [if_pos h52]; exact t_jt3)
    | (unfold jt2; rw [if_neg h52]; exact t_jt3)
set_option maxRecDepth 20000 in
theorem t_jt1 {G : nk_EG} {H : nk_AH} {n i : Int32} : nk_J G mJ6_numberOfTrailingZeros_0f7a4 1 (nk_ri (jt1 n i) H) 0 0 34 [some (.int i), some (.int n)] [] H := by
  refine nk_iload_n (i := 0) dJ6_numberOfTrailingZeros_0f7a4_34 rfl rfl ?_
  refine nk_sipush (v := 256) dJ6_numberOfTrailingZeros_0f7a4_35 (by decide) ?_
  refine nk_icmple (tgt := 49) dJ6_numberOfTrailingZeros_0f7a4_38 (by decide) (fun h38 => ?_) (fun h38 => ?_)
  · skip
    first
    | (unfold jt1; rw [if_pos h38]; exact t_jt2)
    | (unfold jt1; rw [if_neg h38]; exact t_jt2)
  · skip
    refine nk_iincT dJ6_numberOfTrailingZeros_0f7a4_41 rfl (rfl) (by decide) ?_
    refine nk_iload_n (i := 0) dJ6_numberOfTrailingZeros_0f7a4_44 rfl rfl ?_
    refine nk_bipush (v := 8) dJ6_numberOfTrailingZeros_0f7a4_45 (by decide) ?_
    refine nk_iushr dJ6_numberOfTrailingZeros_0f7a4_47 ?_
    refine nk_istore_nT (i := 0) dJ6_numberOfTrailingZeros_0f7a4_48 rfl (by decide) ?_
    first
    | (unfold jt1; rw [if_pos h38]; exact t_jt2)
    | (unfold jt1; rw [if_neg h38]; exact t_jt2)
set_option maxRecDepth 20000 in
theorem t_jt0 {G : nk_EG} {H : nk_AH} {n i : Int32} : nk_J G mJ6_numberOfTrailingZeros_0f7a4 1 (nk_ri (jt0 n i) H) 0 0 19 [some (.int i), some (.int n)] [] H := by
  refine nk_iload_n (i := 0) dJ6_numberOfTrailingZeros_0f7a4_19 rfl rfl ?_
  refine nk_ldcw qJ6_264 dJ6_numberOfTrailingZeros_0f7a4_20 ?_
  refine nk_icmple (tgt := 34) dJ6_numberOfTrailingZeros_0f7a4_23 (by decide) (fun h23 => ?_) (fun h23 => ?_)
  · skip
    first
    | (unfold jt0; rw [if_pos h23]; exact t_jt1)
    | (unfold jt0; rw [if_neg h23]; exact t_jt1)
  · skip
    refine nk_iincT dJ6_numberOfTrailingZeros_0f7a4_26 rfl (rfl) (by decide) ?_
    refine nk_iload_n (i := 0) dJ6_numberOfTrailingZeros_0f7a4_29 rfl rfl ?_
    refine nk_bipush (v := 16) dJ6_numberOfTrailingZeros_0f7a4_30 (by decide) ?_
    refine nk_iushr dJ6_numberOfTrailingZeros_0f7a4_32 ?_
    refine nk_istore_nT (i := 0) dJ6_numberOfTrailingZeros_0f7a4_33 rfl (by decide) ?_
    first
    | (unfold jt0; rw [if_pos h23]; exact t_jt1)
    | (unfold jt0; rw [if_neg h23]; exact t_jt1)
set_option maxRecDepth 20000 in
theorem t_jl4 {G : nk_EG} {H : nk_AH} {n i : Int32} : nk_J G mJ6_numberOfLeadingZeros_0f7a4 1 (nk_ri (jl4 n i) H) 0 0 73 [some (.int i), some (.int n)] [] H := by
  refine nk_iload_n (i := 1) dJ6_numberOfLeadingZeros_0f7a4_73 rfl rfl ?_
  refine nk_iload_n (i := 0) dJ6_numberOfLeadingZeros_0f7a4_74 rfl rfl ?_
  refine nk_iconst (v := 1) dJ6_numberOfLeadingZeros_0f7a4_75 (by decide) ?_
  refine nk_iushr dJ6_numberOfLeadingZeros_0f7a4_76 ?_
  refine nk_isub dJ6_numberOfLeadingZeros_0f7a4_77 ?_
  refine nk_ireturn dJ6_numberOfLeadingZeros_0f7a4_78 rfl ?_
  exact ⟨rfl, rfl⟩
set_option maxRecDepth 20000 in
theorem t_jl3 {G : nk_EG} {H : nk_AH} {n i : Int32} : nk_J G mJ6_numberOfLeadingZeros_0f7a4 1 (nk_ri (jl3 n i) H) 0 0 61 [some (.int i), some (.int n)] [] H := by
  refine nk_iload_n (i := 0) dJ6_numberOfLeadingZeros_0f7a4_61 rfl rfl ?_
  refine nk_iconst (v := 4) dJ6_numberOfLeadingZeros_0f7a4_62 (by decide) ?_
  refine nk_icmplt (tgt := 73) dJ6_numberOfLeadingZeros_0f7a4_63 (by decide) (fun h63 => ?_) (fun h63 => ?_)
  · skip
    first
    | (unfold jl3; rw [if_pos h63]; exact t_jl4)
    | (unfold jl3; rw [if_neg h63]; exact t_jl4)
  · skip
    refine nk_iincT dJ6_numberOfLeadingZeros_0f7a4_66 rfl (rfl) (by decide) ?_
    refine nk_iload_n (i := 0) dJ6_numberOfLeadingZeros_0f7a4_69 rfl rfl ?_
    refine nk_iconst (v := 2) dJ6_numberOfLeadingZeros_0f7a4_70 (by decide) ?_
    refine nk_iushr dJ6_numberOfLeadingZeros_0f7a4_71 ?_
    refine nk_istore_nT (i := 0) dJ6_numberOfLeadingZeros_0f7a4_72 rfl (by decide) ?_
    first
    | (unfold jl3; rw [if_pos h63]; exact t_jl4)
    | (unfold jl3; rw [if_neg h63]; exact t_jl4)
set_option maxRecDepth 20000 in
theorem t_jl2 {G : nk_EG} {H : nk_AH} {n i : Int32} : nk_J G mJ6_numberOfLeadingZeros_0f7a4 1 (nk_ri (jl2 n i) H) 0 0 48 [some (.int i), some (.int n)] [] H := by
  refine nk_iload_n (i := 0) dJ6_numberOfLeadingZeros_0f7a4_48 rfl rfl ?_
  refine nk_bipush (v := 16) dJ6_numberOfLeadingZeros_0f7a4_49 (by decide) ?_
  refine nk_icmplt (tgt := 61) dJ6_numberOfLeadingZeros_0f7a4_51 (by decide) (fun h51 => ?_) (fun h51 => ?_)
  · skip
    first
    | (unfold jl2; rw [if_pos h51]; exact t_jl3)
    | (unfold jl2; rw [if_neg h51]; exact t_jl3)
  · skip
    refine nk_iincT dJ6_numberOfLeadingZeros_0f7a4_54 rfl (rfl) (by decide) ?_
    refine nk_iload_n (i := 0) dJ6_numberOfLeadingZeros_0f7a4_57 rfl rfl ?_
    refine nk_iconst (v := 4) dJ6_numberOfLeadingZeros_0f7a4_58 (by decide) ?_
    refine nk_iushr dJ6_numberOfLeadingZeros_0f7a4_59 ?_
    refine nk_istore_nT (i := 0) dJ6_numberOfLeadingZeros_0f7a4_60 rfl (by decide) ?_
    first
    | (unfold jl2; rw [if_pos h51]; exact t_jl3)
    | (unfold jl2; rw [if_neg h51]; exact t_jl3)
set_option maxRecDepth 20000 in
theorem t_jl1 {G : nk_EG} {H : nk_AH} {n i : Int32} : nk_J G mJ6_numberOfLeadingZeros_0f7a4 1 (nk_ri (jl1 n i) H) 0 0 33 [some (.int i), some (.int n)] [] H := by
  refine nk_iload_n (i := 0) dJ6_numberOfLeadingZeros_0f7a4_33 rfl rfl ?_
  refine nk_sipush (v := 256) dJ6_numberOfLeadingZeros_0f7a4_34 (by decide) ?_
  refine nk_icmplt (tgt := 48) dJ6_numberOfLeadingZeros_0f7a4_37 (by decide) (fun h37 => ?_) (fun h37 => ?_)
  · skip
    first
    | (unfold jl1; rw [if_pos h37]; exact t_jl2)
    | (unfold jl1; rw [if_neg h37]; exact t_jl2)
  · skip
    refine nk_iincT dJ6_numberOfLeadingZeros_0f7a4_40 rfl (rfl) (by decide) ?_
    refine nk_iload_n (i := 0) dJ6_numberOfLeadingZeros_0f7a4_43 rfl rfl ?_
    refine nk_bipush (v := 8) dJ6_numberOfLeadingZeros_0f7a4_44 (by decide) ?_
    refine nk_iushr dJ6_numberOfLeadingZeros_0f7a4_46 ?_
    refine nk_istore_nT (i := 0) dJ6_numberOfLeadingZeros_0f7a4_47 rfl (by decide) ?_
    first
    | (unfold jl1; rw [if_pos h37]; exact t_jl2)
    | (unfold jl1; rw [if_neg h37]; exact t_jl2)
set_option maxRecDepth 20000 in
theorem t_jl0 {G : nk_EG} {H : nk_AH} {n i : Int32} : nk_J G mJ6_numberOfLeadingZeros_0f7a4 1 (nk_ri (jl0 n i) H) 0 0 18 [some (.int i), some (.int n)] [] H := by
  refine nk_iload_n (i := 0) dJ6_numberOfLeadingZeros_0f7a4_18 rfl rfl ?_
  refine nk_ldcw qJ6_264 dJ6_numberOfLeadingZeros_0f7a4_19 ?_
  refine nk_icmplt (tgt := 33) dJ6_numberOfLeadingZeros_0f7a4_22 (by decide) (fun h22 => ?_) (fun h22 => ?_)
  · skip
    first
    | (unfold jl0; rw [if_pos h22]; exact t_jl1)
    | (unfold jl0; rw [if_neg h22]; exact t_jl1)
  · skip
    refine nk_iincT dJ6_numberOfLeadingZeros_0f7a4_25 rfl (rfl) (by decide) ?_
    refine nk_iload_n (i := 0) dJ6_numberOfLeadingZeros_0f7a4_28 rfl rfl ?_
    refine nk_bipush (v := 16) dJ6_numberOfLeadingZeros_0f7a4_29 (by decide) ?_
    refine nk_iushr dJ6_numberOfLeadingZeros_0f7a4_31 ?_
    refine nk_istore_nT (i := 0) dJ6_numberOfLeadingZeros_0f7a4_32 rfl (by decide) ?_
    first
    | (unfold jl0; rw [if_pos h22]; exact t_jl1)
    | (unfold jl0; rw [if_neg h22]; exact t_jl1)
set_option maxRecDepth 20000 in
theorem s_J6_numberOfTrailingZeros_0f7a4 {G : nk_EG} {x : Int32} {t : Nat} {H : nk_AH} (h : bt x t = true) (h2 : ∀ j, j < t → bt x j = false) : nk_Si G mJ6_numberOfTrailingZeros_0f7a4 1 [.int x] H (nI t) H := by
  refine nk_S.of (by decide +kernel) (Nat.le_of_ble_eq_true rfl) rfl ?_
  refine nk_iload_n (i := 0) dJ6_numberOfTrailingZeros_0f7a4_0 rfl rfl ?_
  refine nk_iconst (v := -1) dJ6_numberOfTrailingZeros_0f7a4_1 (by decide) ?_
  refine nk_ixor dJ6_numberOfTrailingZeros_0f7a4_2 ?_
  refine nk_iload_n (i := 0) dJ6_numberOfTrailingZeros_0f7a4_3 rfl rfl ?_
  refine nk_iconst (v := 1) dJ6_numberOfTrailingZeros_0f7a4_4 (by decide) ?_
  refine nk_isub dJ6_numberOfTrailingZeros_0f7a4_5 ?_
  refine nk_iand dJ6_numberOfTrailingZeros_0f7a4_6 ?_
  refine nk_top (y := nI (2 ^ t - 1)) (bt_mask h h2) ?_
  refine nk_istore_nT (i := 0) dJ6_numberOfTrailingZeros_0f7a4_7 rfl (by decide) ?_
  refine nk_iload_n (i := 0) dJ6_numberOfTrailingZeros_0f7a4_8 rfl rfl ?_
  refine nk_ifgt (tgt := 17) dJ6_numberOfTrailingZeros_0f7a4_9 (by decide) (fun h9 => ?_) (fun h9 => ?_)
  · skip
    have ht := (jd_low h h2).1
    refine nk_iconst (v := 1) dJ6_numberOfTrailingZeros_0f7a4_17 (by decide) ?_
    refine nk_istore_nT (i := 1) dJ6_numberOfTrailingZeros_0f7a4_18 rfl (by decide) ?_
    rw [← (jt_eq t ht).1 h9]
    exact t_jt0
  · skip
    have ht := (jd_low h h2).1
    refine nk_iload_n (i := 0) dJ6_numberOfTrailingZeros_0f7a4_12 rfl rfl ?_
    refine nk_bipush (v := 32) dJ6_numberOfTrailingZeros_0f7a4_13 (by decide) ?_
    refine nk_iand dJ6_numberOfTrailingZeros_0f7a4_15 ?_
    refine nk_ireturn dJ6_numberOfTrailingZeros_0f7a4_16 rfl ?_
    exact ⟨by rw [(jt_eq t ht).2 h9], rfl⟩
set_option maxRecDepth 20000 in
theorem s_J6_numberOfLeadingZeros_0f7a4 {G : nk_EG} {x : Int32} {t : Nat} {H : nk_AH} (h : bt x t = true) (h2 : ∀ j, t < j → j < 32 → bt x j = false) : nk_Si G mJ6_numberOfLeadingZeros_0f7a4 1 [.int x] H (nI (31 - t)) H := by
  refine nk_S.of (by decide +kernel) (Nat.le_of_ble_eq_true rfl) rfl ?_
  refine nk_iload_n (i := 0) dJ6_numberOfLeadingZeros_0f7a4_0 rfl rfl ?_
  refine nk_ifgt (tgt := 15) dJ6_numberOfLeadingZeros_0f7a4_1 (by decide) (fun h1 => ?_) (fun h1 => ?_)
  · skip
    refine nk_bipush (v := 31) dJ6_numberOfLeadingZeros_0f7a4_15 (by decide) ?_
    refine nk_istore_nT (i := 1) dJ6_numberOfLeadingZeros_0f7a4_17 rfl (by decide) ?_
    obtain ⟨v, hv, rfl⟩ := nI_of (x := x) (fun q => by have := (fa_lt _ _).mp q; have := (fa_lt _ _).mp h1; omega)
    have hv0 : 0 < v := (nI_ltI (a := 0) (by omega) hv).mp h1
    obtain ⟨t', a1, a2, a3, a4⟩ := jl0_eq hv0 (by omega)
    have e : t' = t := by
      have b := jl_top a2 a3
      rw [bt_nI] at h
      rcases Nat.lt_trichotomy t' t with q | q | q
      · rw [b.2 t q, Bool.and_false] at h; cases h
      · exact q
      · have c := h2 t' q (by omega)
        rw [bt_nI, b.1, Bool.and_true] at c
        exact absurd (show t' < 32 by omega) (of_decide_eq_false c)
    subst e
    rw [← a4]
    exact t_jl0
  · skip
    refine nk_iload_n (i := 0) dJ6_numberOfLeadingZeros_0f7a4_4 rfl rfl ?_
    refine nk_ifne (tgt := 13) dJ6_numberOfLeadingZeros_0f7a4_5 (by decide) (fun h5 => ?_) (fun h5 => ?_)
    · skip
      refine nk_iconst (v := 0) dJ6_numberOfLeadingZeros_0f7a4_13 (by decide) ?_
      refine nk_ireturn dJ6_numberOfLeadingZeros_0f7a4_14 rfl ?_
      first
      | (exfalso; rw [h5, b_0] at h; cases h)
      | (have hneg : x.toInt < 0 := by
           have a1 : ¬ 0 < x.toInt := fun q => h1 ((fa_lt _ _).mpr q)
           have a2 : ¬ x.toInt = 0 := fun q => h5 ((fa_eq _ _).mpr q)
           omega
         have e : t = 31 := jd_neg hneg h h2
         subst e
         exact ⟨rfl, rfl⟩)
    · skip
      refine nk_bipush (v := 32) dJ6_numberOfLeadingZeros_0f7a4_8 (by decide) ?_
      refine nk_goto (tgt := 14) dJ6_numberOfLeadingZeros_0f7a4_10 (by decide) ?_
      refine nk_ireturn dJ6_numberOfLeadingZeros_0f7a4_14 rfl ?_
      first
      | (exfalso; rw [h5, b_0] at h; cases h)
      | (have hneg : x.toInt < 0 := by
           have a1 : ¬ 0 < x.toInt := fun q => h1 ((fa_lt _ _).mpr q)
           have a2 : ¬ x.toInt = 0 := fun q => h5 ((fa_eq _ _).mpr q)
           omega
         have e : t = 31 := jd_neg hneg h h2
         subst e
         exact ⟨rfl, rfl⟩)
set_option maxRecDepth 20000 in
theorem s_J9_max_7cf53 {G : nk_EG} {x y : Int32} {H : nk_AH} : nk_Si G mJ9_max_7cf53 1 [.int x, .int y] H (pf_mx x y) H := by
  refine nk_S.ofF (by decide +kernel) (Nat.le_of_ble_eq_true rfl) rfl ?_
  refine nk_iload_n (i := 0) dJ9_max_7cf53_0 rfl rfl ?_
  refine nk_iload_n (i := 1) dJ9_max_7cf53_1 rfl rfl ?_
  refine nk_icmplt (tgt := 9) dJ9_max_7cf53_2 (by decide) (fun h2 => ?_) (fun h2 => ?_)
  · skip
    refine nk_iload_n (i := 1) dJ9_max_7cf53_9 rfl rfl ?_
    refine nk_ireturn dJ9_max_7cf53_10 rfl ?_
    first
    | exact ⟨by unfold pf_mx; rw [if_pos (Int32.le_of_lt h2)], rfl⟩
    | (have c : y ≤ x := Int32.not_lt.mp h2
       by_cases q : x ≤ y
       · exact ⟨by unfold pf_mx; rw [if_pos q, Int32.le_antisymm q c], rfl⟩
       · exact ⟨by unfold pf_mx; rw [if_neg q], rfl⟩)
  · skip
    refine nk_iload_n (i := 0) dJ9_max_7cf53_5 rfl rfl ?_
    refine nk_goto (tgt := 10) dJ9_max_7cf53_6 (by decide) ?_
    refine nk_ireturn dJ9_max_7cf53_10 rfl ?_
    first
    | exact ⟨by unfold pf_mx; rw [if_pos (Int32.le_of_lt h2)], rfl⟩
    | (have c : y ≤ x := Int32.not_lt.mp h2
       by_cases q : x ≤ y
       · exact ⟨by unfold pf_mx; rw [if_pos q, Int32.le_antisymm q c], rfl⟩
       · exact ⟨by unfold pf_mx; rw [if_neg q], rfl⟩)
set_option maxRecDepth 20000 in
theorem s_J9_min_7cf53 {G : nk_EG} {x y : Int32} {H : nk_AH} : nk_Si G mJ9_min_7cf53 1 [.int x, .int y] H (if y < x then y else x) H := by
  refine nk_S.ofF (by decide +kernel) (Nat.le_of_ble_eq_true rfl) rfl ?_
  refine nk_iload_n (i := 0) dJ9_min_7cf53_0 rfl rfl ?_
  refine nk_iload_n (i := 1) dJ9_min_7cf53_1 rfl rfl ?_
  refine nk_icmpgt (tgt := 9) dJ9_min_7cf53_2 (by decide) (fun h2 => ?_) (fun h2 => ?_)
  · skip
    refine nk_iload_n (i := 1) dJ9_min_7cf53_9 rfl rfl ?_
    refine nk_ireturn dJ9_min_7cf53_10 rfl ?_
    first
    | exact ⟨by rw [if_pos h2], rfl⟩
    | exact ⟨by rw [if_neg h2], rfl⟩
  · skip
    refine nk_iload_n (i := 0) dJ9_min_7cf53_5 rfl rfl ?_
    refine nk_goto (tgt := 10) dJ9_min_7cf53_6 (by decide) ?_
    refine nk_ireturn dJ9_min_7cf53_10 rfl ?_
    first
    | exact ⟨by rw [if_pos h2], rfl⟩
    | exact ⟨by rw [if_neg h2], rfl⟩
set_option maxRecDepth 20000 in
theorem s_J9_max_f86c9 {G : nk_EG} {x y : Int64} {H : nk_AH} : nk_Sl G mJ9_max_f86c9 1 [.long x, .long y] H (if x < y then y else x) H := by
  refine nk_S.ofF (by decide +kernel) (Nat.le_of_ble_eq_true rfl) rfl ?_
  refine nk_lload_n (i := 0) dJ9_max_f86c9_0 rfl rfl ?_
  refine nk_lload_n (i := 2) dJ9_max_f86c9_1 rfl rfl ?_
  refine nk_lcmp dJ9_max_f86c9_2 ?_
  refine nk_iflt (tgt := 10) dJ9_max_f86c9_3 (by decide) (fun h3 => ?_) (fun h3 => ?_)
  · skip
    rw [lg_cmp_lt] at h3
    refine nk_lload_n (i := 2) dJ9_max_f86c9_10 rfl rfl ?_
    refine nk_lreturn dJ9_max_f86c9_11 rfl ?_
    first
    | exact ⟨by rw [if_pos h3], rfl⟩
    | exact ⟨by rw [if_neg h3], rfl⟩
  · skip
    rw [lg_cmp_lt] at h3
    refine nk_lload_n (i := 0) dJ9_max_f86c9_6 rfl rfl ?_
    refine nk_goto (tgt := 11) dJ9_max_f86c9_7 (by decide) ?_
    refine nk_lreturn dJ9_max_f86c9_11 rfl ?_
    first
    | exact ⟨by rw [if_pos h3], rfl⟩
    | exact ⟨by rw [if_neg h3], rfl⟩

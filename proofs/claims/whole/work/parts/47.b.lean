/-! the class: what a shelf tells -/
set_option maxRecDepth 20000 in
theorem s_X5_numbered {G : nk_EG} {H : nk_AH} {q a m b : Nat} {qs ws : Nat → Nat} {κ : Nat → Int32} {F : Nat → Nat → Int32} (hS : cS H q a m b qs ws κ F) (hm4 : m ≤ 4) (hb2 : 2 ≤ b) (hb10 : b ≤ 10) {x : Int32} : nk_Sq G mX5_numbered 2 [.ref q, .int x] H (if 0 ≤ x.toInt ∧ x.toInt < m then some (qs (sp_n x)) else none) H := by
  refine nk_S.of (by decide +kernel) (Nat.le_of_ble_eq_true rfl) rfl ?_
  have hm1 := nk_m1 (n := m) (by omega)
  refine nk_iload_n (i := 1) dX5_numbered_0 rfl rfl ?_
  refine nk_iconst (v := 0) dX5_numbered_1 (by decide) ?_
  refine nk_aload_n (i := 0) dX5_numbered_2 rfl rfl ?_
  refine nk_getf fX5_17 dX5_numbered_3 hS.1 rfl ?_
  refine nk_iconst (v := 1) dX5_numbered_6 (by decide) ?_
  refine nk_isub dX5_numbered_7 ?_
  refine nk_cNi kX5_30 (s_X7_within) dX5_numbered_8 rfl rfl (by decide) (Nat.le_of_ble_eq_true rfl) ?_
  refine nk_ifeq (tgt := 23) dX5_numbered_11 (by decide) (fun h11 => ?_) (fun h11 => ?_)
  · skip
    simp only [nk_b0, Classical.not_not, hm1, show (0 : Int32).toInt = 0 from rfl] at h11
    refine nk_null dX5_numbered_23 ?_
    first | refine nk_areturn dX5_numbered_24 rfl ?_ | refine nk_areturnN dX5_numbered_24 rfl ?_
    first
    | exact ⟨by rw [if_neg (fun z => h11 (by omega))]; rfl, rfl⟩
    | exact ⟨by rw [if_pos (by omega)]; rfl, rfl⟩
  · skip
    simp only [nk_b0, Classical.not_not, hm1, show (0 : Int32).toInt = 0 from rfl] at h11
    have hs : sp_n x < m := by unfold sp_n Int32.toNatClampNeg; omega
    have ex : x = nI (sp_n x) := nI_ofI h11.1
    refine nk_aload_n (i := 0) dX5_numbered_14 rfl rfl ?_
    refine nk_getf fX5_11 dX5_numbered_15 hS.1 rfl ?_
    refine nk_iload_n (i := 1) dX5_numbered_18 rfl rfl ?_
    refine nk_aaldN (j := sp_n x) 2 rfl rfl dX5_numbered_19 hS.2.1 (ex) (by omega) (by decide) (zq_at hs) ?_
    refine nk_goto (tgt := 24) dX5_numbered_20 (by decide) ?_
    first | refine nk_areturn dX5_numbered_24 rfl ?_ | refine nk_areturnN dX5_numbered_24 rfl ?_
    first
    | exact ⟨by rw [if_neg (fun z => h11 (by omega))]; rfl, rfl⟩
    | exact ⟨by rw [if_pos (by omega)]; rfl, rfl⟩
set_option maxRecDepth 20000 in
theorem s_X5_isKey {G : nk_EG} {H : nk_AH} {q a m b : Nat} {qs ws : Nat → Nat} {κ : Nat → Int32} {F : Nat → Nat → Int32} (hS : cS H q a m b qs ws κ F) (hm4 : m ≤ 4) (hb2 : 2 ≤ b) (hb10 : b ≤ 10) {x : Int32} : nk_Si G mX5_isKey 2 [.ref q, .int x] H (if 0 ≤ x.toInt ∧ x.toInt < nk_tp b then 1 else 0) H := by
  refine nk_S.of (by decide +kernel) (Nat.le_of_ble_eq_true rfl) rfl ?_
  have hwm := wm_f b hb10 hb2
  refine nk_iload_n (i := 1) dX5_isKey_0 rfl rfl ?_
  refine nk_iconst (v := 0) dX5_isKey_1 (by decide) ?_
  refine nk_aload_n (i := 0) dX5_isKey_2 rfl rfl ?_
  refine nk_getf fX5_24 dX5_isKey_3 hS.1 rfl ?_
  refine nk_iconst (v := 1) dX5_isKey_6 (by decide) ?_
  refine nk_isub dX5_isKey_7 ?_
  refine nk_cNi kX5_30 (s_X7_within) dX5_isKey_8 rfl rfl (by decide) (Nat.le_of_ble_eq_true rfl) ?_
  refine nk_zreturn dX5_isKey_11 rfl (nk_bn _) ?_
  exact ⟨nk_ifc (by rw [nk_m1 (by omega), show (0 : Int32).toInt = 0 from rfl]; omega), rfl⟩
set_option maxRecDepth 20000 in
theorem l_X5_sizeOfAll {G : nk_EG} {H : nk_AH} {q a m b : Nat} {qs ws : Nat → Nat} {κ : Nat → Int32} {F : Nat → Nat → Int32} (hS : cS H q a m b qs ws κ F) (hm4 : m ≤ 4) (hb2 : 2 ≤ b) (hb10 : b ≤ 10) (hz : ∀ s, s < m → gz (F s) b) : ∀ (n : Nat) (s : Nat) (h1 : s ≤ m) (h2 : m < s + n), nk_J G mX5_sizeOfAll 5 (nk_ri (nI (sp_allk (fun s => gm (F s)) m)) H) 0 0 4 [some (.ref q), some (.int (nI (sp_allk (fun s => gm (F s)) s))), some (.int (nI s))] [] H := by
  intro n
  induction n with
  | zero => intro s h1 h2; omega
  | succ n ih =>
    intro s h1 h2
    refine nk_iload_n (i := 2) dX5_sizeOfAll_4 rfl rfl ?_
    refine nk_aload_n (i := 0) dX5_sizeOfAll_5 rfl rfl ?_
    refine nk_getf fX5_17 dX5_sizeOfAll_6 hS.1 rfl ?_
    refine nk_icmpge (tgt := 30) dX5_sizeOfAll_9 (by decide) (fun h9 => ?_) (fun h9 => ?_)
    · skip
      refine nk_iload_n (i := 1) dX5_sizeOfAll_30 rfl rfl ?_
      refine nk_ireturn dX5_sizeOfAll_31 rfl ?_
      have e : s = m := Nat.le_antisymm h1 (nk_leI h9 (by omega) (by omega))
      exact ⟨by rw [e], rfl⟩
    · skip
      have hs := nk_nleI (a := m) h9 (by omega) (by omega)
      refine nk_iload_n (i := 1) dX5_sizeOfAll_12 rfl rfl ?_
      refine nk_aload_n (i := 0) dX5_sizeOfAll_13 rfl rfl ?_
      refine nk_getf fX5_11 dX5_sizeOfAll_14 hS.1 rfl ?_
      refine nk_iload_n (i := 2) dX5_sizeOfAll_17 rfl rfl ?_
      refine nk_aaldN (j := s) 2 rfl rfl dX5_sizeOfAll_18 hS.2.1 (rfl) (by omega) (by decide) (zq_at hs) ?_
      refine nk_cVi kX5_52 ((hS.2.2 s hs).i (fun H' hk => s_X2_size hk hb2 hb10 (hz s hs))) dX5_sizeOfAll_19 (hS.2.2 _ hs).o rfl rfl (by decide) (Nat.le_of_ble_eq_true rfl) ?_
      refine nk_iadd dX5_sizeOfAll_22 ?_
      refine nk_top (y := nI (sp_allk (fun s => gm (F s)) (s + 1))) (by rw [sp_allk, nI_add]) ?_
      refine nk_istore_nT (i := 1) dX5_sizeOfAll_23 rfl (by decide) ?_
      refine nk_iincT dX5_sizeOfAll_24 rfl (nk_i1 s) (by decide) ?_
      refine nk_goto (tgt := 4) dX5_sizeOfAll_27 (by decide) ?_
      exact ih (s + 1) (by omega) (by omega)
set_option maxRecDepth 20000 in
theorem s_X5_sizeOfAll {G : nk_EG} {H : nk_AH} {q a m b : Nat} {qs ws : Nat → Nat} {κ : Nat → Int32} {F : Nat → Nat → Int32} (hS : cS H q a m b qs ws κ F) (hm4 : m ≤ 4) (hb2 : 2 ≤ b) (hb10 : b ≤ 10) (hz : ∀ s, s < m → gz (F s) b) : nk_Si G mX5_sizeOfAll 5 [.ref q] H (nI (sp_allk (fun s => gm (F s)) m)) H := by
  refine nk_S.of (by decide +kernel) (Nat.le_of_ble_eq_true rfl) rfl ?_
  refine nk_iconst (v := 0) dX5_sizeOfAll_0 (by decide) ?_
  refine nk_istore_nT (i := 1) dX5_sizeOfAll_1 rfl (by decide) ?_
  refine nk_iconst (v := 0) dX5_sizeOfAll_2 (by decide) ?_
  refine nk_istore_nT (i := 2) dX5_sizeOfAll_3 rfl (by decide) ?_
  exact l_X5_sizeOfAll hS hm4 hb2 hb10 hz (m + 1) 0 (by omega) (by omega)
set_option maxRecDepth 20000 in
theorem l_X5_nodesOfAll {G : nk_EG} {H : nk_AH} {q a m b : Nat} {qs ws : Nat → Nat} {κ : Nat → Int32} {F : Nat → Nat → Int32} (hS : cS H q a m b qs ws κ F) (hm4 : m ≤ 4) (hb2 : 2 ≤ b) (hb10 : b ≤ 10) (hz : ∀ s, s < m → gz (F s) b) : ∀ (n : Nat) (s : Nat) (h1 : s ≤ m) (h2 : m < s + n), nk_J G mX5_nodesOfAll 9 (nk_ri (sp_alln (fun s => gm (F s)) b m) H) 0 0 4 [some (.ref q), some (.int (sp_alln (fun s => gm (F s)) b s)), some (.int (nI s))] [] H := by
  intro n
  induction n with
  | zero => intro s h1 h2; omega
  | succ n ih =>
    intro s h1 h2
    refine nk_iload_n (i := 2) dX5_nodesOfAll_4 rfl rfl ?_
    refine nk_aload_n (i := 0) dX5_nodesOfAll_5 rfl rfl ?_
    refine nk_getf fX5_17 dX5_nodesOfAll_6 hS.1 rfl ?_
    refine nk_icmpge (tgt := 30) dX5_nodesOfAll_9 (by decide) (fun h9 => ?_) (fun h9 => ?_)
    · skip
      refine nk_iload_n (i := 1) dX5_nodesOfAll_30 rfl rfl ?_
      refine nk_ireturn dX5_nodesOfAll_31 rfl ?_
      have e : s = m := Nat.le_antisymm h1 (nk_leI h9 (by omega) (by omega))
      exact ⟨by rw [e], rfl⟩
    · skip
      have hs := nk_nleI (a := m) h9 (by omega) (by omega)
      refine nk_iload_n (i := 1) dX5_nodesOfAll_12 rfl rfl ?_
      refine nk_aload_n (i := 0) dX5_nodesOfAll_13 rfl rfl ?_
      refine nk_getf fX5_11 dX5_nodesOfAll_14 hS.1 rfl ?_
      refine nk_iload_n (i := 2) dX5_nodesOfAll_17 rfl rfl ?_
      refine nk_aaldN (j := s) 2 rfl rfl dX5_nodesOfAll_18 hS.2.1 (rfl) (by omega) (by decide) (zq_at hs) ?_
      refine nk_cVi kX5_56 ((hS.2.2 s hs).i (fun H' hk => s_X2_rootNodes hk hb2 hb10 (hz s hs))) dX5_nodesOfAll_19 (hS.2.2 _ hs).o rfl rfl (by decide) (Nat.le_of_ble_eq_true rfl) ?_
      refine nk_iadd dX5_nodesOfAll_22 ?_
      refine nk_top (y := sp_alln (fun s => gm (F s)) b (s + 1)) (by rw [sp_alln]) ?_
      refine nk_istore_nT (i := 1) dX5_nodesOfAll_23 rfl (by decide) ?_
      refine nk_iincT dX5_nodesOfAll_24 rfl (nk_i1 s) (by decide) ?_
      refine nk_goto (tgt := 4) dX5_nodesOfAll_27 (by decide) ?_
      exact ih (s + 1) (by omega) (by omega)
set_option maxRecDepth 20000 in
theorem s_X5_nodesOfAll {G : nk_EG} {H : nk_AH} {q a m b : Nat} {qs ws : Nat → Nat} {κ : Nat → Int32} {F : Nat → Nat → Int32} (hS : cS H q a m b qs ws κ F) (hm4 : m ≤ 4) (hb2 : 2 ≤ b) (hb10 : b ≤ 10) (hz : ∀ s, s < m → gz (F s) b) : nk_Si G mX5_nodesOfAll 9 [.ref q] H (sp_alln (fun s => gm (F s)) b m) H := by
  refine nk_S.of (by decide +kernel) (Nat.le_of_ble_eq_true rfl) rfl ?_
  refine nk_iconst (v := 0) dX5_nodesOfAll_0 (by decide) ?_
  refine nk_istore_nT (i := 1) dX5_nodesOfAll_1 rfl (by decide) ?_
  refine nk_iconst (v := 0) dX5_nodesOfAll_2 (by decide) ?_
  refine nk_istore_nT (i := 2) dX5_nodesOfAll_3 rfl (by decide) ?_
  exact l_X5_nodesOfAll hS hm4 hb2 hb10 hz (m + 1) 0 (by omega) (by omega)
set_option maxRecDepth 20000 in
theorem l_X5_cf1 {G : nk_EG} {H : nk_AH} {q a m b : Nat} {qs ws : Nat → Nat} {κ : Nat → Int32} {F : Nat → Nat → Int32} (hS : cS H q a m b qs ws κ F) (hm4 : m ≤ 4) (hb2 : 2 ≤ b) (hb10 : b ≤ 10) {k v : Nat} {Φ : Option Value → nk_AH → Prop} (hv : v < nk_wm b) (kk : nk_J G mX5_commonFrom 3 Φ 0 0 61 [some (.ref q), some (.int (nI k)), some (.int (nI v)), some (.int (cmn (fun s => gm (F s)) v (k : Int) ((nk_tp b : Int) - 1) m)), some (.int (nI m))] [] H) : ∀ (n : Nat) (s : Nat) (h1 : s ≤ m) (h2 : m < s + n), nk_J G mX5_commonFrom 3 (Φ) 0 0 31 [some (.ref q), some (.int (nI k)), some (.int (nI v)), some (.int (cmn (fun s => gm (F s)) v (k : Int) ((nk_tp b : Int) - 1) s)), some (.int (nI s))] [] H := by
  intro n
  induction n with
  | zero => intro s h1 h2; omega
  | succ n ih =>
    intro s h1 h2
    have hwm := wm_f b hb10 hb2
    refine nk_iload dX5_commonFrom_31 rfl ?_
    refine nk_aload_n (i := 0) dX5_commonFrom_33 rfl rfl ?_
    refine nk_getf fX5_17 dX5_commonFrom_34 hS.1 rfl ?_
    refine nk_icmpge (tgt := 61) dX5_commonFrom_37 (by decide) (fun h37 => ?_) (fun h37 => ?_)
    · skip
      have e2 : s = m := Nat.le_antisymm h1 (nk_leI h37 (by omega) (by omega))
      subst e2
      exact kk
    · skip
      have hs := nk_nleI (a := m) h37 (by omega) (by omega)
      obtain ⟨f, hf, e⟩ := hS.2.2 s hs
      refine nk_iload_n (i := 3) dX5_commonFrom_40 rfl rfl ?_
      refine nk_aload_n (i := 0) dX5_commonFrom_41 rfl rfl ?_
      refine nk_getf fX5_11 dX5_commonFrom_42 hS.1 rfl ?_
      refine nk_iload dX5_commonFrom_45 rfl ?_
      refine nk_aaldN (j := s) 2 rfl rfl dX5_commonFrom_47 hS.2.1 (rfl) (by omega) (by decide) (zq_at hs) ?_
      refine nk_getf fX5_44 dX5_commonFrom_48 (hS.2.2 _ hs).o rfl ?_
      refine nk_iload_n (i := 2) dX5_commonFrom_51 rfl rfl ?_
      refine nk_ialdN (j := v) dX5_commonFrom_52 hf.2 (rfl) (by omega) (by omega) ?_
      refine nk_iand dX5_commonFrom_53 ?_
      refine nk_top (y := cmn (fun s => gm (F s)) v (k : Int) ((nk_tp b : Int) - 1) (s + 1)) (by rw [e v hv, cmn_s]) ?_
      refine nk_istore_nT (i := 3) dX5_commonFrom_54 rfl (by decide) ?_
      refine nk_iincT dX5_commonFrom_55 rfl (nk_i1 s) (by decide) ?_
      refine nk_goto (tgt := 31) dX5_commonFrom_58 (by decide) ?_
      exact ih (s + 1) (by omega) (by omega)
set_option maxRecDepth 20000 in
theorem l_X5_cf2 {G : nk_EG} {H : nk_AH} {q a m b : Nat} {qs ws : Nat → Nat} {κ : Nat → Int32} {F : Nat → Nat → Int32} (hS : cS H q a m b qs ws κ F) (hm4 : m ≤ 4) (hb2 : 2 ≤ b) (hb10 : b ≤ 10) (hz : ∀ s, s < m → gz (F s) b) (h1m : 1 ≤ m) {k : Nat} (hkt : k < nk_tp b) : ∀ (n : Nat) (v : Nat) (l3 l4 : Option Value) (h1 : v ≤ nk_wm b) (h2 : nk_wm b < v + n) (hI : ∀ j, k ≤ j → j < 32 * v → gm (gal (fun s => gm (F s)) m) j = false), nk_J G mX5_commonFrom 3 (nk_ri (nk_rN (nk_up (fun j => sp_all (fun s => gm (F s)) j m) k (nk_tp b - k))) H) 0 0 5 [some (.ref q), some (.int (nI k)), some (.int (nI v)), l3, l4] [] H := by
  intro n
  induction n with
  | zero => intro v l3 l4 h1 h2 hI; omega
  | succ n ih =>
    intro v l3 l4 h1 h2 hI
    have hwm := wm_f b hb10 hb2
    have hm1 := nk_m1 (n := nk_tp b) (by omega)
    have hk1 : (nI k).toInt = (k : Int) := nI_toInt (by omega)
    refine nk_iload_n (i := 2) dX5_commonFrom_5 rfl rfl ?_
    refine nk_aload_n (i := 0) dX5_commonFrom_6 rfl rfl ?_
    refine nk_getf fX5_21 dX5_commonFrom_7 hS.1 rfl ?_
    refine nk_cSi kX5_59 (s_X2_wordsFor hb2 hb10) dX5_commonFrom_10 rfl rfl (by decide) (Nat.le_of_ble_eq_true rfl) ?_
    refine nk_icmpge (tgt := 81) dX5_commonFrom_13 (by decide) (fun h13 => ?_) (fun h13 => ?_)
    · skip
      have hv := nk_leI (a := nk_wm b) h13 (by omega) (by omega)
      have hno : nk_up (gm (gal (fun s => gm (F s)) m)) k (nk_tp b - k) = none := nk_up_no (fun j j1 j2 => hI j j1 (by omega))
      refine nk_ldc qX5_72 dX5_commonFrom_81 ?_
      refine nk_ireturn dX5_commonFrom_83 rfl ?_
      exact ⟨by rw [← gal_gm, hno]; rfl, rfl⟩
    · skip
      have hv := nk_nleI (a := nk_wm b) h13 (by omega) (by omega)
      refine nk_iload_n (i := 2) dX5_commonFrom_16 rfl rfl ?_
      refine nk_iload_n (i := 1) dX5_commonFrom_17 rfl rfl ?_
      refine nk_aload_n (i := 0) dX5_commonFrom_18 rfl rfl ?_
      refine nk_getf fX5_24 dX5_commonFrom_19 hS.1 rfl ?_
      refine nk_iconst (v := 1) dX5_commonFrom_22 (by decide) ?_
      refine nk_isub dX5_commonFrom_23 ?_
      refine nk_cSi kX5_63 (s_X2_spanIn (by omega) (by omega) (by omega)) dX5_commonFrom_24 rfl rfl (by decide) (Nat.le_of_ble_eq_true rfl) ?_
      refine nk_top (y := cmn (fun s => gm (F s)) v (k : Int) ((nk_tp b : Int) - 1) 0) (by rw [hm1, hk1, cmn_0]) ?_
      refine nk_istore_nT (i := 3) dX5_commonFrom_27 rfl (by decide) ?_
      refine nk_iconst (v := 0) dX5_commonFrom_28 (by decide) ?_
      refine nk_istoreT dX5_commonFrom_29 (by decide) ?_
      refine l_X5_cf1 hS hm4 hb2 hb10 hv ?_ (m + 1) 0 (by omega) (by omega)
      refine nk_iload_n (i := 3) dX5_commonFrom_61 rfl rfl ?_
      refine nk_top (y := (gal (fun s => gm (F s)) m v &&& sw v (k : Int) ((nk_tp b : Int) - 1))) (cmn_m) ?_
      refine nk_ifeq (tgt := 75) dX5_commonFrom_62 (by decide) (fun h62 => ?_) (fun h62 => ?_)
      · skip
        refine nk_iincT dX5_commonFrom_75 rfl (nk_i1 v) (by decide) ?_
        refine nk_goto (tgt := 5) dX5_commonFrom_78 (by decide) ?_
        exact ih (v + 1) _ _ (by omega) (by omega) (fr_miss (gal_gz h1m hz) (by omega) hI h62)
      · skip
        obtain ⟨t, t1, t2, t3, t4⟩ := sp_lo_of h62
        refine nk_iload_n (i := 2) dX5_commonFrom_65 rfl rfl ?_
        refine nk_bipush (v := 32) dX5_commonFrom_66 (by decide) ?_
        refine nk_imul dX5_commonFrom_68 ?_
        refine nk_top (y := nI (v * 32)) (nk_x32 v) ?_
        refine nk_iload_n (i := 3) dX5_commonFrom_69 rfl rfl ?_
        refine nk_top (y := (gal (fun s => gm (F s)) m v &&& sw v (k : Int) ((nk_tp b : Int) - 1))) (cmn_m) ?_
        refine nk_cSi kX5_67 (s_X3_leastOf) dX5_commonFrom_70 rfl rfl (by decide) (Nat.le_of_ble_eq_true rfl) ?_
        refine nk_iadd dX5_commonFrom_73 ?_
        refine nk_ireturn dX5_commonFrom_74 rfl ?_
        exact ⟨by rw [t2, nk_w32, ← gal_gm, fr_hit hI t1 t3 t4]; rfl, rfl⟩
set_option maxRecDepth 20000 in
theorem s_X5_commonFrom {G : nk_EG} {H : nk_AH} {q a m b : Nat} {qs ws : Nat → Nat} {κ : Nat → Int32} {F : Nat → Nat → Int32} (hS : cS H q a m b qs ws κ F) (hm4 : m ≤ 4) (hb2 : 2 ≤ b) (hb10 : b ≤ 10) (hz : ∀ s, s < m → gz (F s) b) (h1m : 1 ≤ m) {k : Nat} (hkt : k < nk_tp b) : nk_Si G mX5_commonFrom 3 [.ref q, .int (nI k)] H (nk_rN (nk_up (fun j => sp_all (fun s => gm (F s)) j m) k (nk_tp b - k))) H := by
  refine nk_S.of (by decide +kernel) (Nat.le_of_ble_eq_true rfl) rfl ?_
  have hwm := wm_f b hb10 hb2
  refine nk_iload_n (i := 1) dX5_commonFrom_0 rfl rfl ?_
  refine nk_bipush (v := 32) dX5_commonFrom_1 (by decide) ?_
  refine nk_idiv dX5_commonFrom_3 (by decide) ?_
  refine nk_top (y := nI (k / 32)) (nk_d32 (by omega)) ?_
  refine nk_istore_nT (i := 2) dX5_commonFrom_4 rfl (by decide) ?_
  exact l_X5_cf2 hS hm4 hb2 hb10 hz h1m hkt (nk_wm b + 1) (k / 32) _ _ (by omega) (by omega) (fun j j1 j2 => by omega)
set_option maxRecDepth 20000 in
theorem l_X5_ic1 {G : nk_EG} {H : nk_AH} {q a m b : Nat} {qs ws : Nat → Nat} {κ : Nat → Int32} {F : Nat → Nat → Int32} (hS : cS H q a m b qs ws κ F) (hm4 : m ≤ 4) (hb2 : 2 ≤ b) (hb10 : b ≤ 10) {x : Int32} {c1 c2 v : Nat} {Φ : Option Value → nk_AH → Prop} (hv : v < nk_wm b) (kk : nk_J G mX5_isCovered 3 Φ 0 0 75 [some (.ref q), some (.int x), some (.int (nI c1)), some (.int (nI c2)), some (.int (nI v)), some (.int (bar (fun s => gm (F s)) x v (c1 : Int) (c2 : Int) m)), some (.int (nI m))] [] H) : ∀ (n : Nat) (s : Nat) (h1 : s ≤ m) (h2 : m < s + n), nk_J G mX5_isCovered 3 (Φ) 0 0 30 [some (.ref q), some (.int x), some (.int (nI c1)), some (.int (nI c2)), some (.int (nI v)), some (.int (bar (fun s => gm (F s)) x v (c1 : Int) (c2 : Int) s)), some (.int (nI s))] [] H := by
  intro n
  induction n with
  | zero => intro s h1 h2; omega
  | succ n ih =>
    intro s h1 h2
    have hwm := wm_f b hb10 hb2
    refine nk_iload dX5_isCovered_30 rfl ?_
    refine nk_aload_n (i := 0) dX5_isCovered_32 rfl rfl ?_
    refine nk_getf fX5_17 dX5_isCovered_33 hS.1 rfl ?_
    refine nk_icmpge (tgt := 75) dX5_isCovered_36 (by decide) (fun h36 => ?_) (fun h36 => ?_)
    · skip
      have e2 : s = m := Nat.le_antisymm h1 (nk_leI h36 (by omega) (by omega))
      subst e2
      exact kk
    · skip
      have hs := nk_nleI (a := m) h36 (by omega) (by omega)
      refine nk_iload_n (i := 1) dX5_isCovered_39 rfl rfl ?_
      refine nk_iload dX5_isCovered_40 rfl ?_
      refine nk_iushr dX5_isCovered_42 ?_
      refine nk_iconst (v := 1) dX5_isCovered_43 (by decide) ?_
      refine nk_iand dX5_isCovered_44 ?_
      refine nk_iconst (v := 1) dX5_isCovered_45 (by decide) ?_
      refine nk_icmpne (tgt := 69) dX5_isCovered_46 (by decide) (fun h46 => ?_) (fun h46 => ?_)
      · skip
        rw [ju_bit1 (by omega)] at h46
        refine nk_iincT dX5_isCovered_69 rfl (nk_i1 s) (by decide) ?_
        refine nk_goto (tgt := 30) dX5_isCovered_72 (by decide) ?_
        first
        | (have hn := bar_n (p := (fun s => gm (F s))) (v := v) (a := (c1 : Int)) (c := (c2 : Int)) h46
           rw [hn]
           exact ih (s + 1) (by omega) (by omega))
        | exact ih (s + 1) (by omega) (by omega)
      · skip
        rw [ju_bit1 (by omega)] at h46
        obtain ⟨f, hf, e⟩ := hS.2.2 s hs
        refine nk_iload dX5_isCovered_49 rfl ?_
        refine nk_aload_n (i := 0) dX5_isCovered_51 rfl rfl ?_
        refine nk_getf fX5_11 dX5_isCovered_52 hS.1 rfl ?_
        refine nk_iload dX5_isCovered_55 rfl ?_
        refine nk_aaldN (j := s) 2 rfl rfl dX5_isCovered_57 hS.2.1 (rfl) (by omega) (by decide) (zq_at hs) ?_
        refine nk_getf fX5_44 dX5_isCovered_58 (hS.2.2 _ hs).o rfl ?_
        refine nk_iload dX5_isCovered_61 rfl ?_
        refine nk_ialdN (j := v) dX5_isCovered_63 hf.2 (rfl) (by omega) (by omega) ?_
        refine nk_iconst (v := -1) dX5_isCovered_64 (by decide) ?_
        refine nk_ixor dX5_isCovered_65 ?_
        refine nk_iand dX5_isCovered_66 ?_
        refine nk_top (y := bar (fun s => gm (F s)) x v (c1 : Int) (c2 : Int) (s + 1)) (by rw [e v hv]; exact bar_y h46) ?_
        refine nk_istoreT dX5_isCovered_67 (by decide) ?_
        refine nk_iincT dX5_isCovered_69 rfl (nk_i1 s) (by decide) ?_
        refine nk_goto (tgt := 30) dX5_isCovered_72 (by decide) ?_
        first
        | (have hn := bar_n (p := (fun s => gm (F s))) (v := v) (a := (c1 : Int)) (c := (c2 : Int)) h46
           rw [hn]
           exact ih (s + 1) (by omega) (by omega))
        | exact ih (s + 1) (by omega) (by omega)
set_option maxRecDepth 20000 in
theorem l_X5_ic2 {G : nk_EG} {H : nk_AH} {q a m b : Nat} {qs ws : Nat → Nat} {κ : Nat → Int32} {F : Nat → Nat → Int32} (hS : cS H q a m b qs ws κ F) (hm4 : m ≤ 4) (hb2 : 2 ≤ b) (hb10 : b ≤ 10) {x : Int32} {c1 c2 : Nat} (hac : c1 ≤ c2) (hct : c2 < nk_tp b) : ∀ (n : Nat) (v : Nat) (l5 l6 : Option Value) (h1 : v ≤ nk_wm b) (h2 : nk_wm b < v + n) (hI : ∀ k, c1 ≤ k → k ≤ c2 → k < 32 * v → sp_any (fun s => gm (F s)) x k m = true), nk_J G mX5_isCovered 3 (nk_ri (if sp_cov (fun s => gm (F s)) m x c1 (c2 + 1 - c1) = true then 1 else 0) H) 0 0 6 [some (.ref q), some (.int x), some (.int (nI c1)), some (.int (nI c2)), some (.int (nI v)), l5, l6] [] H := by
  intro n
  induction n with
  | zero => intro v l5 l6 h1 h2 hI; omega
  | succ n ih =>
    intro v l5 l6 h1 h2 hI
    have hwm := wm_f b hb10 hb2
    have hk1 : (nI c1).toInt = (c1 : Int) := nI_toInt (by omega)
    have hk2 : (nI c2).toInt = (c2 : Int) := nI_toInt (by omega)
    refine nk_iload dX5_isCovered_6 rfl ?_
    refine nk_aload_n (i := 0) dX5_isCovered_8 rfl rfl ?_
    refine nk_getf fX5_21 dX5_isCovered_9 hS.1 rfl ?_
    refine nk_cSi kX5_59 (s_X2_wordsFor hb2 hb10) dX5_isCovered_12 rfl rfl (by decide) (Nat.le_of_ble_eq_true rfl) ?_
    refine nk_icmpge (tgt := 88) dX5_isCovered_15 (by decide) (fun h15 => ?_) (fun h15 => ?_)
    · skip
      have hv := nk_leI (a := nk_wm b) h15 (by omega) (by omega)
      refine nk_iconst (v := 1) dX5_isCovered_88 (by decide) ?_
      refine nk_zreturn dX5_isCovered_89 rfl rfl ?_
      exact ⟨by rw [if_pos (sp_cov_iff.mpr (fun k k1 k2 => hI k k1 (by omega) (by omega)))], rfl⟩
    · skip
      have hv := nk_nleI (a := nk_wm b) h15 (by omega) (by omega)
      refine nk_iload dX5_isCovered_18 rfl ?_
      refine nk_iload_n (i := 2) dX5_isCovered_20 rfl rfl ?_
      refine nk_iload_n (i := 3) dX5_isCovered_21 rfl rfl ?_
      refine nk_cSi kX5_63 (s_X2_spanIn (by omega) (by omega) (by omega)) dX5_isCovered_22 rfl rfl (by decide) (Nat.le_of_ble_eq_true rfl) ?_
      refine nk_top (y := bar (fun s => gm (F s)) x v (c1 : Int) (c2 : Int) 0) (by rw [hk1, hk2, bar_0]) ?_
      refine nk_istoreT dX5_isCovered_25 (by decide) ?_
      refine nk_iconst (v := 0) dX5_isCovered_27 (by decide) ?_
      refine nk_istoreT dX5_isCovered_28 (by decide) ?_
      refine l_X5_ic1 hS hm4 hb2 hb10 hv ?_ (m + 1) 0 (by omega) (by omega)
      refine nk_iload dX5_isCovered_75 rfl ?_
      refine nk_ifeq (tgt := 82) dX5_isCovered_77 (by decide) (fun h77 => ?_) (fun h77 => ?_)
      · skip
        rw [bar_m] at h77
        refine nk_iincT dX5_isCovered_82 rfl (nk_i1 v) (by decide) ?_
        refine nk_goto (tgt := 6) dX5_isCovered_85 (by decide) ?_
        exact ih (v + 1) _ _ (by omega) (by omega) (fun k k1 k2 k3 => if z : k < 32 * v then hI k k1 k2 z else h77 k (by omega) k3 k1 k2)
      · skip
        rw [bar_m] at h77
        refine nk_iconst (v := 0) dX5_isCovered_80 (by decide) ?_
        refine nk_zreturn dX5_isCovered_81 rfl rfl ?_
        exact ⟨by rw [if_neg (fun z => h77 (fun k k1 k2 k3 k4 => sp_cov_iff.mp z k k3 (by omega)))], rfl⟩
set_option maxRecDepth 20000 in
theorem s_X5_isCovered {G : nk_EG} {H : nk_AH} {q a m b : Nat} {qs ws : Nat → Nat} {κ : Nat → Int32} {F : Nat → Nat → Int32} (hS : cS H q a m b qs ws κ F) (hm4 : m ≤ 4) (hb2 : 2 ≤ b) (hb10 : b ≤ 10) {x : Int32} {c1 c2 : Nat} (hac : c1 ≤ c2) (hct : c2 < nk_tp b) : nk_Si G mX5_isCovered 3 [.ref q, .int x, .int (nI c1), .int (nI c2)] H (if sp_cov (fun s => gm (F s)) m x c1 (c2 + 1 - c1) = true then 1 else 0) H := by
  refine nk_S.of (by decide +kernel) (Nat.le_of_ble_eq_true rfl) rfl ?_
  have hwm := wm_f b hb10 hb2
  refine nk_iload_n (i := 2) dX5_isCovered_0 rfl rfl ?_
  refine nk_bipush (v := 32) dX5_isCovered_1 (by decide) ?_
  refine nk_idiv dX5_isCovered_3 (by decide) ?_
  refine nk_top (y := nI (c1 / 32)) (nk_d32 (by omega)) ?_
  refine nk_istoreT dX5_isCovered_4 (by decide) ?_
  exact l_X5_ic2 hS hm4 hb2 hb10 hac hct (nk_wm b + 1) (c1 / 32) _ _ (by omega) (by omega) (fun k k1 k2 k3 => by omega)
set_option maxRecDepth 20000 in
theorem l_X5_fewestOver {G : nk_EG} {H : nk_AH} {q a m b : Nat} {qs ws : Nat → Nat} {κ : Nat → Int32} {F : Nat → Nat → Int32} (hS : cS H q a m b qs ws κ F) (hm4 : m ≤ 4) (hb2 : 2 ≤ b) (hb10 : b ≤ 10) {c1 c2 : Nat} (hac : c1 ≤ c2) (hct : c2 < nk_tp b) : ∀ (n : Nat) (j : Nat) (l5 : Option Value) (h1 : j + 1 ≤ 2 ^ m) (h2 : 2 ^ m < j + 1 + n), nk_J G mX5_fewestOver 4 (nk_ri (fo (sp_cv (fun x => sp_cov (fun s => gm (F s)) m (nI x) c1 (c2 + 1 - c1)) (2 ^ m - 1))) H) 0 0 5 [some (.ref q), some (.int (nI c1)), some (.int (nI c2)), some (.int (fo (sp_cv (fun x => sp_cov (fun s => gm (F s)) m (nI x) c1 (c2 + 1 - c1)) j))), some (.int (nI (j + 1))), l5] [] H := by
  intro n
  induction n with
  | zero => intro j l5 h1 h2; omega
  | succ n ih =>
    intro j l5 h1 h2
    have hwm := wm_f b hb10 hb2
    have hp := nk_pw4 m hm4
    refine nk_iload dX5_fewestOver_5 rfl ?_
    refine nk_iconst (v := 1) dX5_fewestOver_7 (by decide) ?_
    refine nk_aload_n (i := 0) dX5_fewestOver_8 rfl rfl ?_
    refine nk_getf fX5_17 dX5_fewestOver_9 hS.1 rfl ?_
    refine nk_ishl dX5_fewestOver_12 ?_
    refine nk_top (y := nI (2 ^ m)) (hp.1) ?_
    refine nk_icmpge (tgt := 64) dX5_fewestOver_13 (by decide) (fun h13 => ?_) (fun h13 => ?_)
    · skip
      refine nk_iload_n (i := 3) dX5_fewestOver_64 rfl rfl ?_
      refine nk_ireturn dX5_fewestOver_65 rfl ?_
      have e : j + 1 = 2 ^ m := Nat.le_antisymm h1 (nk_leI h13 (by omega) (by omega))
      exact ⟨by rw [show j = 2 ^ m - 1 by omega], rfl⟩
    · skip
      have hj := nk_nleI (a := 2 ^ m) h13 (by omega) (by omega)
      have hlt := fun q => sp_cv_lt (cov := (fun x => sp_cov (fun s => gm (F s)) m (nI x) c1 (c2 + 1 - c1))) (j := j) (q := q)
      have hn0 := fo_n hlt (by omega)
      refine nk_iload_n (i := 3) dX5_fewestOver_16 rfl rfl ?_
      refine nk_ifeq (tgt := 32) dX5_fewestOver_17 (by decide) (fun h17 => ?_) (fun h17 => ?_)
      · skip
        have hfw : fo (sp_cv (fun x => sp_cov (fun s => gm (F s)) m (nI x) c1 (c2 + 1 - c1)) j) = 0 ∨ fb_ct (bt (nI (j + 1))) 32 < fb_ct (bt (fo (sp_cv (fun x => sp_cov (fun s => gm (F s)) m (nI x) c1 (c2 + 1 - c1)) j))) 32 := by
          have z1 := fb_ct_le (bt (nI (j + 1))) 32
          have z2 := fb_ct_le (bt (fo (sp_cv (fun x => sp_cov (fun s => gm (F s)) m (nI x) c1 (c2 + 1 - c1)) j))) 32
          first
          | exact Or.inl h17
          | exact Or.inr (nk_nleI h29 (by omega) (by omega))
        refine nk_iconst (v := 1) dX5_fewestOver_32 (by decide) ?_
        refine nk_goto (tgt := 37) dX5_fewestOver_33 (by decide) ?_
        refine nk_istoreT dX5_fewestOver_37 (by decide) ?_
        refine nk_iload dX5_fewestOver_39 rfl ?_
        refine nk_ifeq (tgt := 58) dX5_fewestOver_41 (by decide) (fun h41 => by first | exact absurd h41 (by decide) | exact absurd (by decide) h41) (fun _ => ?_)
        refine nk_aload_n (i := 0) dX5_fewestOver_44 rfl rfl ?_
        refine nk_iload dX5_fewestOver_45 rfl ?_
        refine nk_iload_n (i := 1) dX5_fewestOver_47 rfl rfl ?_
        refine nk_iload_n (i := 2) dX5_fewestOver_48 rfl rfl ?_
        refine nk_cVi kX5_78 (s_X5_isCovered hS hm4 hb2 hb10 hac hct) dX5_fewestOver_49 hS.1 rfl rfl (by decide) (Nat.le_of_ble_eq_true rfl) ?_
        refine nk_ifeq (tgt := 58) dX5_fewestOver_52 (by decide) (fun h52 => ?_) (fun h52 => ?_)
        · skip
          simp only [nk_b0, Classical.not_not] at h52
          refine nk_iincT dX5_fewestOver_58 rfl (nk_i1 (j + 1)) (by decide) ?_
          refine nk_goto (tgt := 5) dX5_fewestOver_61 (by decide) ?_
          first
          | (have e := cv_n1 (cov := (fun x => sp_cov (fun s => gm (F s)) m (nI x) c1 (c2 + 1 - c1))) (j := j) h52
             rw [← e]
             exact ih (j + 1) _ (by omega) (by omega))
          | (have e := cv_y (cov := (fun x => sp_cov (fun s => gm (F s)) m (nI x) c1 (c2 + 1 - c1))) hlt h52 hfw (by omega)
             rw [← e]
             exact ih (j + 1) _ (by omega) (by omega))
        · skip
          simp only [nk_b0, Classical.not_not] at h52
          refine nk_iload dX5_fewestOver_55 rfl ?_
          refine nk_istore_nT (i := 3) dX5_fewestOver_57 rfl (by decide) ?_
          refine nk_iincT dX5_fewestOver_58 rfl (nk_i1 (j + 1)) (by decide) ?_
          refine nk_goto (tgt := 5) dX5_fewestOver_61 (by decide) ?_
          first
          | (have e := cv_n1 (cov := (fun x => sp_cov (fun s => gm (F s)) m (nI x) c1 (c2 + 1 - c1))) (j := j) h52
             rw [← e]
             exact ih (j + 1) _ (by omega) (by omega))
          | (have e := cv_y (cov := (fun x => sp_cov (fun s => gm (F s)) m (nI x) c1 (c2 + 1 - c1))) hlt h52 hfw (by omega)
             rw [← e]
             exact ih (j + 1) _ (by omega) (by omega))
      · skip
        refine nk_iload dX5_fewestOver_20 rfl ?_
        refine nk_cSi kX5_73 (s_J6_bitCount_0f7a4) dX5_fewestOver_22 rfl rfl (by decide) (Nat.le_of_ble_eq_true rfl) ?_
        refine nk_iload_n (i := 3) dX5_fewestOver_25 rfl rfl ?_
        refine nk_cSi kX5_73 (s_J6_bitCount_0f7a4) dX5_fewestOver_26 rfl rfl (by decide) (Nat.le_of_ble_eq_true rfl) ?_
        refine nk_icmpge (tgt := 36) dX5_fewestOver_29 (by decide) (fun h29 => ?_) (fun h29 => ?_)
        · skip
          have e := cv_n2 (cov := (fun x => sp_cov (fun s => gm (F s)) m (nI x) c1 (c2 + 1 - c1))) hlt h17 (fun z => by have := fb_ct_le (bt (nI (j + 1))) 32; have := fb_ct_le (bt (fo (sp_cv (fun x => sp_cov (fun s => gm (F s)) m (nI x) c1 (c2 + 1 - c1)) j))) 32; have := nk_leI h29 (by omega) (by omega); omega)
          refine nk_iconst (v := 0) dX5_fewestOver_36 (by decide) ?_
          refine nk_istoreT dX5_fewestOver_37 (by decide) ?_
          refine nk_iload dX5_fewestOver_39 rfl ?_
          refine nk_ifeq (tgt := 58) dX5_fewestOver_41 (by decide) (fun _ => ?_) (fun h41 => by first | exact absurd (rfl) h41 | exact absurd h41 (rfl))
          refine nk_iincT dX5_fewestOver_58 rfl (nk_i1 (j + 1)) (by decide) ?_
          refine nk_goto (tgt := 5) dX5_fewestOver_61 (by decide) ?_
          rw [← e]
          exact ih (j + 1) _ (by omega) (by omega)
        · skip
          have hfw : fo (sp_cv (fun x => sp_cov (fun s => gm (F s)) m (nI x) c1 (c2 + 1 - c1)) j) = 0 ∨ fb_ct (bt (nI (j + 1))) 32 < fb_ct (bt (fo (sp_cv (fun x => sp_cov (fun s => gm (F s)) m (nI x) c1 (c2 + 1 - c1)) j))) 32 := by
            have z1 := fb_ct_le (bt (nI (j + 1))) 32
            have z2 := fb_ct_le (bt (fo (sp_cv (fun x => sp_cov (fun s => gm (F s)) m (nI x) c1 (c2 + 1 - c1)) j))) 32
            first
            | exact Or.inl h17
            | exact Or.inr (nk_nleI h29 (by omega) (by omega))
          refine nk_iconst (v := 1) dX5_fewestOver_32 (by decide) ?_
          refine nk_goto (tgt := 37) dX5_fewestOver_33 (by decide) ?_
          refine nk_istoreT dX5_fewestOver_37 (by decide) ?_
          refine nk_iload dX5_fewestOver_39 rfl ?_
          refine nk_ifeq (tgt := 58) dX5_fewestOver_41 (by decide) (fun h41 => by first | exact absurd h41 (by decide) | exact absurd (by decide) h41) (fun _ => ?_)
          refine nk_aload_n (i := 0) dX5_fewestOver_44 rfl rfl ?_
          refine nk_iload dX5_fewestOver_45 rfl ?_
          refine nk_iload_n (i := 1) dX5_fewestOver_47 rfl rfl ?_
          refine nk_iload_n (i := 2) dX5_fewestOver_48 rfl rfl ?_
          refine nk_cVi kX5_78 (s_X5_isCovered hS hm4 hb2 hb10 hac hct) dX5_fewestOver_49 hS.1 rfl rfl (by decide) (Nat.le_of_ble_eq_true rfl) ?_
          refine nk_ifeq (tgt := 58) dX5_fewestOver_52 (by decide) (fun h52 => ?_) (fun h52 => ?_)
          · skip
            simp only [nk_b0, Classical.not_not] at h52
            refine nk_iincT dX5_fewestOver_58 rfl (nk_i1 (j + 1)) (by decide) ?_
            refine nk_goto (tgt := 5) dX5_fewestOver_61 (by decide) ?_
            first
            | (have e := cv_n1 (cov := (fun x => sp_cov (fun s => gm (F s)) m (nI x) c1 (c2 + 1 - c1))) (j := j) h52
               rw [← e]
               exact ih (j + 1) _ (by omega) (by omega))
            | (have e := cv_y (cov := (fun x => sp_cov (fun s => gm (F s)) m (nI x) c1 (c2 + 1 - c1))) hlt h52 hfw (by omega)
               rw [← e]
               exact ih (j + 1) _ (by omega) (by omega))
          · skip
            simp only [nk_b0, Classical.not_not] at h52
            refine nk_iload dX5_fewestOver_55 rfl ?_
            refine nk_istore_nT (i := 3) dX5_fewestOver_57 rfl (by decide) ?_
            refine nk_iincT dX5_fewestOver_58 rfl (nk_i1 (j + 1)) (by decide) ?_
            refine nk_goto (tgt := 5) dX5_fewestOver_61 (by decide) ?_
            first
            | (have e := cv_n1 (cov := (fun x => sp_cov (fun s => gm (F s)) m (nI x) c1 (c2 + 1 - c1))) (j := j) h52
               rw [← e]
               exact ih (j + 1) _ (by omega) (by omega))
            | (have e := cv_y (cov := (fun x => sp_cov (fun s => gm (F s)) m (nI x) c1 (c2 + 1 - c1))) hlt h52 hfw (by omega)
               rw [← e]
               exact ih (j + 1) _ (by omega) (by omega))
set_option maxRecDepth 20000 in
theorem s_X5_fewestOver {G : nk_EG} {H : nk_AH} {q a m b : Nat} {qs ws : Nat → Nat} {κ : Nat → Int32} {F : Nat → Nat → Int32} (hS : cS H q a m b qs ws κ F) (hm4 : m ≤ 4) (hb2 : 2 ≤ b) (hb10 : b ≤ 10) {c1 c2 : Nat} (hac : c1 ≤ c2) (hct : c2 < nk_tp b) : nk_Si G mX5_fewestOver 4 [.ref q, .int (nI c1), .int (nI c2)] H (fo (sp_cv (fun x => sp_cov (fun s => gm (F s)) m (nI x) c1 (c2 + 1 - c1)) (2 ^ m - 1))) H := by
  refine nk_S.of (by decide +kernel) (Nat.le_of_ble_eq_true rfl) rfl ?_
  have hp := nk_pw4 m hm4
  refine nk_iconst (v := 0) dX5_fewestOver_0 (by decide) ?_
  refine nk_istore_nT (i := 3) dX5_fewestOver_1 rfl (by decide) ?_
  refine nk_iconst (v := 1) dX5_fewestOver_2 (by decide) ?_
  refine nk_istoreT dX5_fewestOver_3 (by decide) ?_
  exact l_X5_fewestOver hS hm4 hb2 hb10 hac hct (2 ^ m) 0 _ (by omega) (by omega)

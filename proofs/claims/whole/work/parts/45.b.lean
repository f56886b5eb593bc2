/-! the class: the words of a set changed -/
set_option maxRecDepth 20000 in
theorem s_X2_put {G : nk_EG} {H : nk_AH} {q w j b : Nat} {κ : Int32} {f : Nat → Int32} (hk : cK H q w j κ b f) (hb2 : 2 ≤ b) (hb10 : b ≤ 10) {k : Nat} (hkt : k < nk_tp b) : nk_Sv G mX2_put 1 [.ref q, .int (nI k)] H (nk_u H w (.inl (.int, nk_wm b, .inl (upd f (k / 32) (f (k / 32) ||| pf_b1 (k % 32)))))) := by
  refine nk_S.of (by decide +kernel) (Nat.le_of_ble_eq_true rfl) rfl ?_
  have hwm := wm_f b hb10 hb2
  refine nk_aload_n (i := 0) dX2_put_0 rfl rfl ?_
  refine nk_getf fX2_39 dX2_put_1 hk.1 rfl ?_
  refine nk_iload_n (i := 1) dX2_put_4 rfl rfl ?_
  refine nk_bipush (v := 32) dX2_put_5 (by decide) ?_
  refine nk_idiv dX2_put_7 (by decide) ?_
  refine nk_dup2 dX2_put_8 rfl rfl ?_
  refine nk_ialdN (j := k / 32) dX2_put_9 hk.2 (nk_d32 (by omega)) (by omega) (by omega) ?_
  refine nk_iconst (v := 1) dX2_put_10 (by decide) ?_
  refine nk_iload_n (i := 1) dX2_put_11 rfl rfl ?_
  refine nk_bipush (v := 32) dX2_put_12 (by decide) ?_
  refine nk_irem dX2_put_14 (by decide) ?_
  refine nk_top (y := nI (k % 32)) (nk_r32 (by omega)) ?_
  refine nk_ishl dX2_put_15 ?_
  refine nk_ior dX2_put_16 ?_
  refine nk_iastN (j := k / 32) dX2_put_17 hk.2 (nk_d32 (by omega)) (by omega) (by omega) ?_
  refine nk_vreturn dX2_put_18 rfl ?_
  exact ⟨rfl, rfl⟩
set_option maxRecDepth 20000 in
theorem l_turn {G : nk_EG} {H : nk_AH} {q w j b : Nat} {κ : Int32} {f : Nat → Int32} (hk : cK H q w j κ b f) (hb2 : 2 ≤ b) (hb10 : b ≤ 10) {a c : Nat} (hac : a ≤ c) (hct : c < nk_tp b) : ∀ (n : Nat) (v : Nat) (h0 : a / 32 ≤ v) (h1 : v ≤ c / 32 + 1) (h2 : c / 32 + 1 < v + n), nk_J G mX2_turn 3 (nk_rv (nk_u H w (.inl (.int, nk_wm b, .inl (tnf f (a : Int) (c : Int)))))) 0 0 5 [some (.ref q), some (.int (nI a)), some (.int (nI c)), some (.int (nI v))] [] (nk_u H w (.inl (.int, nk_wm b, .inl (tn f (a : Int) (c : Int) v)))) := by
  intro n
  induction n with
  | zero => intro v h0 h1 h2; omega
  | succ n ih =>
    intro v h0 h1 h2
    have hwm := wm_f b hb10 hb2
    have ha1 : (nI a).toInt = (a : Int) := nI_toInt (by omega)
    have hc1 : (nI c).toInt = (c : Int) := nI_toInt (by omega)
    refine nk_iload_n (i := 3) dX2_turn_5 rfl rfl ?_
    refine nk_iload_n (i := 2) dX2_turn_6 rfl rfl ?_
    refine nk_bipush (v := 32) dX2_turn_7 (by decide) ?_
    refine nk_idiv dX2_turn_9 (by decide) ?_
    refine nk_top (y := nI (c / 32)) (nk_d32 (by omega)) ?_
    refine nk_icmpgt (tgt := 34) dX2_turn_10 (by decide) (fun h10 => ?_) (fun h10 => ?_)
    · skip
      refine nk_vreturn dX2_turn_34 rfl ?_
      have e := nk_ltI (a := c / 32) h10 (by omega) (by omega)
      have e2 : v = c / 32 + 1 := by omega
      exact ⟨rfl, by rw [e2, tn_end]⟩
    · skip
      have hv := nk_nltI (a := c / 32) h10 (by omega) (by omega)
      refine nk_aload_n (i := 0) dX2_turn_13 rfl rfl ?_
      refine nk_getf fX2_39 dX2_turn_14 (cK.u hk).1 rfl ?_
      refine nk_iload_n (i := 3) dX2_turn_17 rfl rfl ?_
      refine nk_dup2 dX2_turn_18 rfl rfl ?_
      refine nk_ialdN (j := v) dX2_turn_19 (nk_u_self _ _ _) (rfl) (by omega) (by omega) ?_
      refine nk_iload_n (i := 3) dX2_turn_20 rfl rfl ?_
      refine nk_iload_n (i := 1) dX2_turn_21 rfl rfl ?_
      refine nk_iload_n (i := 2) dX2_turn_22 rfl rfl ?_
      refine nk_cSi kX2_56 (s_X2_spanIn (by omega) (by omega) (by omega)) dX2_turn_23 rfl rfl (by decide) (Nat.le_of_ble_eq_true rfl) ?_
      refine nk_ixor dX2_turn_26 ?_
      refine nk_top (y := tn f (a : Int) (c : Int) v v ^^^ sw v (a : Int) (c : Int)) (by rw [ha1, hc1]) ?_
      refine nk_iastN (j := v) dX2_turn_27 (nk_u_self _ _ _) (rfl) (by omega) (by omega) ?_
      refine nk_J.to ?_ rfl rfl (nk_u_u _ _ _ _)
      rw [tn_s]
      refine nk_iincT dX2_turn_28 rfl (nk_i1 v) (by decide) ?_
      refine nk_goto (tgt := 5) dX2_turn_31 (by decide) ?_
      exact ih (v + 1) (by omega) (by omega) (by omega)
set_option maxRecDepth 20000 in
theorem s_X2_turn {G : nk_EG} {H : nk_AH} {q w j b : Nat} {κ : Int32} {f : Nat → Int32} (hk : cK H q w j κ b f) (hb2 : 2 ≤ b) (hb10 : b ≤ 10) {a c : Nat} (hac : a ≤ c) (hct : c < nk_tp b) : nk_Sv G mX2_turn 3 [.ref q, .int (nI a), .int (nI c)] H (nk_u H w (.inl (.int, nk_wm b, .inl (tnf f (a : Int) (c : Int))))) := by
  refine nk_S.of (by decide +kernel) (Nat.le_of_ble_eq_true rfl) rfl ?_
  have hwm := wm_f b hb10 hb2
  refine nk_iload_n (i := 1) dX2_turn_0 rfl rfl ?_
  refine nk_bipush (v := 32) dX2_turn_1 (by decide) ?_
  refine nk_idiv dX2_turn_3 (by decide) ?_
  refine nk_top (y := nI (a / 32)) (nk_d32 (by omega)) ?_
  refine nk_istore_nT (i := 3) dX2_turn_4 rfl (by decide) ?_
  refine (l_turn hk hb2 hb10 hac hct (c / 32 + 2) (a / 32) (by omega) (by omega) (by omega)).to rfl rfl ?_
  rw [tn_0]
  funext z
  by_cases e : z = w
  · subst e; rw [nk_u_self]; exact hk.2
  · rw [nk_u_ne e]
set_option maxRecDepth 20000 in
theorem s_X2_become {G : nk_EG} {H : nk_AH} {q w j b : Nat} {κ : Int32} {f : Nat → Int32} (hk : cK H q w j κ b f) (hb2 : 2 ≤ b) (hb10 : b ≤ 10) {o n2 : Nat} {fo : Nat → Int32} (ho : H o = some (.inl (.int, n2, .inl fo))) (hn2 : nk_wm b ≤ n2) : nk_Sv G mX2_become 1 [.ref q, .ref o] H (nk_u H w (.inl (.int, nk_wm b, .inl (va_cpy fo f 0 0 (nk_wm b))))) := by
  refine nk_S.of (by decide +kernel) (Nat.le_of_ble_eq_true rfl) rfl ?_
  have hwm := wm_f b hb10 hb2
  refine nk_aload_n (i := 1) dX2_become_0 rfl rfl ?_
  refine nk_iconst (v := 0) dX2_become_1 (by decide) ?_
  refine nk_aload_n (i := 0) dX2_become_2 rfl rfl ?_
  refine nk_getf fX2_39 dX2_become_3 hk.1 rfl ?_
  refine nk_iconst (v := 0) dX2_become_6 (by decide) ?_
  refine nk_aload_n (i := 0) dX2_become_7 rfl rfl ?_
  refine nk_getf fX2_39 dX2_become_8 hk.1 rfl ?_
  refine nk_alen 0 rfl dX2_become_11 hk.2 rfl ?_
  refine nk_top (y := nI (nk_wm b)) (nk_len _) ?_
  have e0 : (nI (nk_wm b)).toNatClampNeg = nk_wm b := nI_clamp (by omega)
  have e1 : (0 : Int32).toNatClampNeg = 0 := rfl
  refine nk_copy kX2_60 nk_cp1 nk_cp2 nk_cp3 dX2_become_12 ho hk.2 (by decide) (by decide) (nI_pos (by omega)) (by rw [e0, e1]; omega) (by rw [e0, e1]; omega) (by decide) (Nat.le_of_ble_eq_true rfl) ?_
  rw [e0, e1]
  refine nk_vreturn dX2_become_15 rfl ?_
  exact ⟨rfl, rfl⟩
set_option maxRecDepth 20000 in
theorem s_X2_joined {G : nk_EG} {how x y : Int32} {H : nk_AH} : nk_Si G mX2_joined 1 [.int how, .int x, .int y] H (jn how x y) H := by
  refine nk_S.of (by decide +kernel) (Nat.le_of_ble_eq_true rfl) rfl ?_
  refine nk_iload_n (i := 0) dX2_joined_0 rfl rfl ?_
  by_cases c1_0 : how = 0
  · skip
    refine nk_top (y := 0) c1_0 ?_
    refine nk_tableIn (tgt := 28) (off := 27) dX2_joined_1 (by decide) (by decide) (by decide) (by decide) ?_
    refine nk_iload_n (i := 1) dX2_joined_28 rfl rfl ?_
    refine nk_iload_n (i := 2) dX2_joined_29 rfl rfl ?_
    refine nk_iand dX2_joined_30 ?_
    refine nk_ireturn dX2_joined_31 rfl ?_
    exact ⟨by rw [c1_0]; rfl, rfl⟩
  by_cases c1_1 : how = 1
  · skip
    refine nk_top (y := 1) c1_1 ?_
    refine nk_tableIn (tgt := 32) (off := 31) dX2_joined_1 (by decide) (by decide) (by decide) (by decide) ?_
    refine nk_iload_n (i := 1) dX2_joined_32 rfl rfl ?_
    refine nk_iload_n (i := 2) dX2_joined_33 rfl rfl ?_
    refine nk_ior dX2_joined_34 ?_
    refine nk_ireturn dX2_joined_35 rfl ?_
    exact ⟨by rw [c1_1]; rfl, rfl⟩
  by_cases c1_2 : how = 2
  · skip
    refine nk_top (y := 2) c1_2 ?_
    refine nk_tableIn (tgt := 36) (off := 35) dX2_joined_1 (by decide) (by decide) (by decide) (by decide) ?_
    refine nk_iload_n (i := 1) dX2_joined_36 rfl rfl ?_
    refine nk_iload_n (i := 2) dX2_joined_37 rfl rfl ?_
    refine nk_ixor dX2_joined_38 ?_
    refine nk_ireturn dX2_joined_39 rfl ?_
    exact ⟨by rw [c1_2]; rfl, rfl⟩
  have e1_0 : (how).toInt ≠ 0 := nk_neI c1_0
  have e1_1 : (how).toInt ≠ 1 := nk_neI c1_1
  have e1_2 : (how).toInt ≠ 2 := nk_neI c1_2
  refine nk_tableOut (tgt := 40) dX2_joined_1 (by omega) (by decide) ?_
  refine nk_iload_n (i := 1) dX2_joined_40 rfl rfl ?_
  refine nk_iload_n (i := 2) dX2_joined_41 rfl rfl ?_
  refine nk_iconst (v := -1) dX2_joined_42 (by decide) ?_
  refine nk_ixor dX2_joined_43 ?_
  refine nk_iand dX2_joined_44 ?_
  refine nk_ireturn dX2_joined_45 rfl ?_
  exact ⟨by unfold jn; rw [if_neg c1_0, if_neg c1_1, if_neg c1_2], rfl⟩
set_option maxRecDepth 20000 in
theorem l_becomeJoined {G : nk_EG} {H : nk_AH} {q w j b : Nat} {κ : Int32} {f : Nat → Int32} (hk : cK H q w j κ b f) (hb2 : 2 ≤ b) (hb10 : b ≤ 10) {q1 w1 j1 q2 w2 j2 : Nat} {κ1 κ2 : Int32} {f1 f2 : Nat → Int32} (hk1 : cK H q1 w1 j1 κ1 b f1) (hk2 : cK H q2 w2 j2 κ2 b f2) {how : Int32} : ∀ (n : Nat) (v : Nat) (h1 : v ≤ nk_wm b) (h2 : nk_wm b < v + n), nk_J G mX2_becomeJoined 2 (nk_rv (nk_u H w (.inl (.int, nk_wm b, .inl (fa_fill (fun u => jn how (f1 u) (f2 u)) f (nk_wm b)))))) 0 0 3 [some (.ref q), some (.int how), some (.ref q1), some (.ref q2), some (.int (nI v))] [] (nk_u H w (.inl (.int, nk_wm b, .inl (fa_fill (fun u => jn how (f1 u) (f2 u)) f v)))) := by
  intro n
  induction n with
  | zero => intro v h1 h2; omega
  | succ n ih =>
    intro v h1 h2
    have hwm := wm_f b hb10 hb2
    refine nk_iload dX2_becomeJoined_3 rfl ?_
    refine nk_aload_n (i := 0) dX2_becomeJoined_5 rfl rfl ?_
    refine nk_getf fX2_39 dX2_becomeJoined_6 (cK.u hk).1 rfl ?_
    refine nk_alen 0 rfl dX2_becomeJoined_9 (nk_u_self _ _ _) rfl ?_
    refine nk_top (y := nI (nk_wm b)) (nk_len _) ?_
    refine nk_icmpge (tgt := 44) dX2_becomeJoined_10 (by decide) (fun h10 => ?_) (fun h10 => ?_)
    · skip
      refine nk_vreturn dX2_becomeJoined_44 rfl ?_
      have e : v = nk_wm b := Nat.le_antisymm h1 (nk_leI h10 (by omega) (by omega))
      exact ⟨rfl, by rw [e]⟩
    · skip
      have hv := nk_nleI (a := nk_wm b) h10 (by omega) (by omega)
      obtain ⟨g1, e1, e1b⟩ := jn_at (v := v) (J := (fun u => jn how (f1 u) (f2 u))) hk hk1
      obtain ⟨g2, e2, e2b⟩ := jn_at (v := v) (J := (fun u => jn how (f1 u) (f2 u))) hk hk2
      refine nk_aload_n (i := 0) dX2_becomeJoined_13 rfl rfl ?_
      refine nk_getf fX2_39 dX2_becomeJoined_14 (cK.u hk).1 rfl ?_
      refine nk_iload dX2_becomeJoined_17 rfl ?_
      refine nk_iload_n (i := 1) dX2_becomeJoined_19 rfl rfl ?_
      refine nk_aload_n (i := 2) dX2_becomeJoined_20 rfl rfl ?_
      refine nk_getf fX2_39 dX2_becomeJoined_21 (cK.ob hk hk1) rfl ?_
      refine nk_iload dX2_becomeJoined_24 rfl ?_
      refine nk_ialdN (j := v) dX2_becomeJoined_26 e1 (rfl) (by omega) (by omega) ?_
      refine nk_aload_n (i := 3) dX2_becomeJoined_27 rfl rfl ?_
      refine nk_getf fX2_39 dX2_becomeJoined_28 (cK.ob hk hk2) rfl ?_
      refine nk_iload dX2_becomeJoined_31 rfl ?_
      refine nk_ialdN (j := v) dX2_becomeJoined_33 e2 (rfl) (by omega) (by omega) ?_
      refine nk_cSi kX2_66 (s_X2_joined) dX2_becomeJoined_34 rfl rfl (by decide) (Nat.le_of_ble_eq_true rfl) ?_
      refine nk_top (y := (fun u => jn how (f1 u) (f2 u)) v) (by rw [e1b v (Nat.le_refl _), e2b v (Nat.le_refl _)]) ?_
      refine nk_iastN (j := v) dX2_becomeJoined_37 (nk_u_self _ _ _) (rfl) (by omega) (by omega) ?_
      refine nk_J.to ?_ rfl rfl (nk_u_u _ _ _ _)
      rw [fa_fill_succ]
      refine nk_iincT dX2_becomeJoined_38 rfl (nk_i1 v) (by decide) ?_
      refine nk_goto (tgt := 3) dX2_becomeJoined_41 (by decide) ?_
      exact ih (v + 1) (by omega) (by omega)
set_option maxRecDepth 20000 in
theorem s_X2_becomeJoined {G : nk_EG} {H : nk_AH} {q w j b : Nat} {κ : Int32} {f : Nat → Int32} (hk : cK H q w j κ b f) (hb2 : 2 ≤ b) (hb10 : b ≤ 10) {q1 w1 j1 q2 w2 j2 : Nat} {κ1 κ2 : Int32} {f1 f2 : Nat → Int32} (hk1 : cK H q1 w1 j1 κ1 b f1) (hk2 : cK H q2 w2 j2 κ2 b f2) {how : Int32} : nk_Sv G mX2_becomeJoined 2 [.ref q, .int how, .ref q1, .ref q2] H (nk_u H w (.inl (.int, nk_wm b, .inl (fa_fill (fun u => jn how (f1 u) (f2 u)) f (nk_wm b))))) := by
  refine nk_S.of (by decide +kernel) (Nat.le_of_ble_eq_true rfl) rfl ?_
  have hwm := wm_f b hb10 hb2
  refine nk_iconst (v := 0) dX2_becomeJoined_0 (by decide) ?_
  refine nk_istoreT dX2_becomeJoined_1 (by decide) ?_
  refine (l_becomeJoined hk hb2 hb10 hk1 hk2 (nk_wm b + 1) 0 (by omega) (by omega)).to rfl rfl ?_
  rw [fa_fill_0]
  funext z
  by_cases e : z = w
  · subst e; rw [nk_u_self]; exact hk.2
  · rw [nk_u_ne e]
set_option maxRecDepth 20000 in
theorem s_X2_wordOf {G : nk_EG} {H : nk_AH} {o n2 : Nat} {fo : Nat → Int32} (ho : H o = some (.inl (.int, n2, .inl fo))) (hn2 : 1 ≤ n2 ∧ n2 ≤ 32) {x : Int32} : nk_Si G mX2_wordOf 2 [.ref o, .int x] H (if 0 ≤ x.toInt ∧ x.toInt < n2 then fo x.toInt.toNat else 0) H := by
  refine nk_S.of (by decide +kernel) (Nat.le_of_ble_eq_true rfl) rfl ?_
  refine nk_iload_n (i := 1) dX2_wordOf_0 rfl rfl ?_
  refine nk_iconst (v := 0) dX2_wordOf_1 (by decide) ?_
  refine nk_aload_n (i := 0) dX2_wordOf_2 rfl rfl ?_
  refine nk_alen 0 rfl dX2_wordOf_3 ho rfl ?_
  refine nk_top (y := nI n2) (nk_len _) ?_
  refine nk_iconst (v := 1) dX2_wordOf_4 (by decide) ?_
  refine nk_isub dX2_wordOf_5 ?_
  refine nk_cNi kX2_52 (s_X7_within) dX2_wordOf_6 rfl rfl (by decide) (Nat.le_of_ble_eq_true rfl) ?_
  refine nk_ifeq (tgt := 18) dX2_wordOf_9 (by decide) (fun h9 => ?_) (fun h9 => ?_)
  · skip
    rw [nk_b0, nk_m1 (by omega), show (0 : Int32).toInt = 0 from rfl] at h9
    refine nk_iconst (v := 0) dX2_wordOf_18 (by decide) ?_
    refine nk_ireturn dX2_wordOf_19 rfl ?_
    first
    | exact ⟨by rw [if_pos hx, hu1], rfl⟩
    | (have hx : ¬ (0 ≤ x.toInt ∧ x.toInt < n2) := fun z => h9 ⟨z.1, by omega⟩
       exact ⟨by rw [if_neg hx], rfl⟩)
  · skip
    rw [nk_b0, nk_m1 (by omega), show (0 : Int32).toInt = 0 from rfl] at h9
    have hx : 0 ≤ x.toInt ∧ x.toInt < n2 := by have := Classical.not_not.mp h9; omega
    obtain ⟨u, hu, rfl⟩ := nk_getN hx
    have hu1 : (nI u).toInt.toNat = u := by rw [nI_toInt (by omega)]; rfl
    refine nk_aload_n (i := 0) dX2_wordOf_12 rfl rfl ?_
    refine nk_iload_n (i := 1) dX2_wordOf_13 rfl rfl ?_
    refine nk_ialdN (j := u) dX2_wordOf_14 ho (rfl) (by omega) (by omega) ?_
    refine nk_goto (tgt := 19) dX2_wordOf_15 (by decide) ?_
    refine nk_ireturn dX2_wordOf_19 rfl ?_
    first
    | exact ⟨by rw [if_pos hx, hu1], rfl⟩
    | (have hx : ¬ (0 ≤ x.toInt ∧ x.toInt < n2) := fun z => h9 ⟨z.1, by omega⟩
       exact ⟨by rw [if_neg hx], rfl⟩)
set_option maxRecDepth 20000 in
theorem s_X2_cutOut {G : nk_EG} {H : nk_AH} {o n2 : Nat} {fo : Nat → Int32} (ho : H o = some (.inl (.int, n2, .inl fo))) (hn2 : 1 ≤ n2 ∧ n2 ≤ 32) {s : Int32} (hs : -20000 ≤ s.toInt ∧ s.toInt ≤ 20000) : nk_Si G mX2_cutOut 3 [.ref o, .int s] H (co fo n2 s.toInt) H := by
  refine nk_S.of (by decide +kernel) (Nat.le_of_ble_eq_true rfl) rfl ?_
  have a1 := nk_sr5 s
  have a3 : (s.toInt % 32).toNat < 32 := by omega
  have a4 : s.toInt = 32 * (s.toInt / 32) + ((s.toInt % 32).toNat : Int) := by omega
  have a5 : (s >>> ((5 : Int32) &&& 31) + 1).toInt = s.toInt / 32 + 1 := by
    rw [fb_addI (by rw [a1]; show _ ≤ _ + (1 : Int); omega) (by rw [a1]; show _ + (1 : Int) < _; omega), a1]; rfl
  rw [a4, ← co_eq (x := s.toInt / 32) a3 _ _ rfl rfl]
  refine nk_iload_n (i := 1) dX2_cutOut_0 rfl rfl ?_
  refine nk_iconst (v := 5) dX2_cutOut_1 (by decide) ?_
  refine nk_ishr dX2_cutOut_2 ?_
  refine nk_istore_nT (i := 2) dX2_cutOut_3 rfl (by decide) ?_
  refine nk_iload_n (i := 1) dX2_cutOut_4 rfl rfl ?_
  refine nk_bipush (v := 31) dX2_cutOut_5 (by decide) ?_
  refine nk_iand dX2_cutOut_7 ?_
  refine nk_top (y := nI (s.toInt % 32).toNat) (nk_and31 s) ?_
  refine nk_istore_nT (i := 3) dX2_cutOut_8 rfl (by decide) ?_
  refine nk_aload_n (i := 0) dX2_cutOut_9 rfl rfl ?_
  refine nk_iload_n (i := 2) dX2_cutOut_10 rfl rfl ?_
  refine nk_cSi kX2_78 (s_X2_wordOf ho hn2) dX2_cutOut_11 rfl rfl (by decide) (Nat.le_of_ble_eq_true rfl) ?_
  refine nk_iload_n (i := 3) dX2_cutOut_14 rfl rfl ?_
  refine nk_iushr dX2_cutOut_15 ?_
  refine nk_istoreT dX2_cutOut_16 (by decide) ?_
  refine nk_iload_n (i := 3) dX2_cutOut_18 rfl rfl ?_
  refine nk_ifne (tgt := 27) dX2_cutOut_19 (by decide) (fun h19 => ?_) (fun h19 => ?_)
  · skip
    refine nk_iload dX2_cutOut_27 rfl ?_
    refine nk_aload_n (i := 0) dX2_cutOut_29 rfl rfl ?_
    refine nk_iload_n (i := 2) dX2_cutOut_30 rfl rfl ?_
    refine nk_iconst (v := 1) dX2_cutOut_31 (by decide) ?_
    refine nk_iadd dX2_cutOut_32 ?_
    refine nk_cSi kX2_78 (s_X2_wordOf ho hn2) dX2_cutOut_33 rfl rfl (by decide) (Nat.le_of_ble_eq_true rfl) ?_
    refine nk_bipush (v := 32) dX2_cutOut_36 (by decide) ?_
    refine nk_iload_n (i := 3) dX2_cutOut_38 rfl rfl ?_
    refine nk_isub dX2_cutOut_39 ?_
    refine nk_top (y := nI (32 - (s.toInt % 32).toNat)) (pk_sub (a := 32) (by omega)) ?_
    refine nk_ishl dX2_cutOut_40 ?_
    refine nk_ior dX2_cutOut_41 ?_
    refine nk_ireturn dX2_cutOut_42 rfl ?_
    first
    | (have c : (s.toInt % 32).toNat = 0 := nk_eqI (b := 0) h19 (by omega) (by omega)
       exact ⟨by rw [if_pos c, a1], rfl⟩)
    | (have c : ¬ (s.toInt % 32).toNat = 0 := fun z => h19 (by rw [z]; rfl)
       exact ⟨by rw [if_neg c, a5, a1], rfl⟩)
  · skip
    refine nk_iload dX2_cutOut_22 rfl ?_
    refine nk_goto (tgt := 42) dX2_cutOut_24 (by decide) ?_
    refine nk_ireturn dX2_cutOut_42 rfl ?_
    first
    | (have c : (s.toInt % 32).toNat = 0 := nk_eqI (b := 0) h19 (by omega) (by omega)
       exact ⟨by rw [if_pos c, a1], rfl⟩)
    | (have c : ¬ (s.toInt % 32).toNat = 0 := fun z => h19 (by rw [z]; rfl)
       exact ⟨by rw [if_neg c, a5, a1], rfl⟩)
set_option maxRecDepth 20000 in
theorem l_moveBy {G : nk_EG} {H : nk_AH} {q w j b : Nat} {κ : Int32} {f : Nat → Int32} (hk : cK H q w j κ b f) (hb2 : 2 ≤ b) (hb10 : b ≤ 10) {c : Nat} {x : Int32} (hcH : H c = none) (hc : c ≠ w) (hcq : q ≠ c) (hx : -9999 ≤ x.toInt ∧ x.toInt ≤ 9999) : ∀ (n : Nat) (v : Nat) (h1 : v ≤ nk_wm b) (h2 : nk_wm b < v + n), nk_J G mX2_moveBy 4 (nk_rv (nk_u H w (.inl (.int, nk_wm b, .inl (fa_fill (fun u : Nat => co f (nk_wm b) (32 * (u : Int) - x.toInt) &&& sw u 0 ((nk_tp b : Int) - 1)) f (nk_wm b)))))) 0 0 13 [some (.ref q), some (.int x), some (.ref c), some (.int (nI v))] [] (nk_u (nk_u H c (.inl (.int, nk_wm b, .inl (f)))) w (.inl (.int, nk_wm b, .inl (fa_fill (fun u : Nat => co f (nk_wm b) (32 * (u : Int) - x.toInt) &&& sw u 0 ((nk_tp b : Int) - 1)) f v)))) := by
  intro n
  induction n with
  | zero => intro v h1 h2; omega
  | succ n ih =>
    intro v h1 h2
    have hwm := wm_f b hb10 hb2
    have hm1 := nk_m1 (n := nk_tp b) (by omega)
    have hq : (nk_u (nk_u H c (.inl (.int, nk_wm b, .inl (f)))) w (.inl (.int, nk_wm b, .inl (fa_fill (fun u : Nat => co f (nk_wm b) (32 * (u : Int) - x.toInt) &&& sw u 0 ((nk_tp b : Int) - 1)) f v)))) q = some (.inr (2, [.int (nI j), .int κ, .int (nI (nk_tp b)), .int (nI (b / 2)), .int (nI (b - b / 2)), .ref w])) := by
      rw [nk_u_ne hk.ne, nk_u_ne hcq]; exact hk.1
    have ha : (nk_u (nk_u H c (.inl (.int, nk_wm b, .inl (f)))) w (.inl (.int, nk_wm b, .inl (fa_fill (fun u : Nat => co f (nk_wm b) (32 * (u : Int) - x.toInt) &&& sw u 0 ((nk_tp b : Int) - 1)) f v)))) c = some (.inl (.int, nk_wm b, .inl (f))) := by rw [nk_u_ne hc, nk_u_self]
    refine nk_iload_n (i := 3) dX2_moveBy_13 rfl rfl ?_
    refine nk_aload_n (i := 0) dX2_moveBy_14 rfl rfl ?_
    refine nk_getf fX2_39 dX2_moveBy_15 hq rfl ?_
    refine nk_alen 0 rfl dX2_moveBy_18 (nk_u_self _ _ _) rfl ?_
    refine nk_top (y := nI (nk_wm b)) (nk_len _) ?_
    refine nk_icmpge (tgt := 56) dX2_moveBy_19 (by decide) (fun h19 => ?_) (fun h19 => ?_)
    · skip
      have e : v = nk_wm b := Nat.le_antisymm h1 (nk_leI h19 (by omega) (by omega))
      subst e
      have hfree := hcH
      refine nk_J.sub (H2 := (nk_u H w (.inl (.int, nk_wm b, .inl (fa_fill (fun u : Nat => co f (nk_wm b) (32 * (u : Int) - x.toInt) &&& sw u 0 ((nk_tp b : Int) - 1)) f (nk_wm b)))))) (fun z y hz => ?_) ?_
      · by_cases e : z = w
        · rw [e, nk_u_self] at hz ⊢; exact hz
        · rw [nk_u_ne e] at hz ⊢
          rw [nk_u_ne (fun e2 => by rw [e2, hcH] at hz; cases hz)]; exact hz
      refine nk_vreturn dX2_moveBy_56 rfl ?_
      exact ⟨rfl, rfl⟩
    · skip
      have hv := nk_nleI (a := nk_wm b) h19 (by omega) (by omega)
      have sd : (nI (v * 32) - x).toInt = 32 * (v : Int) - x.toInt := by
        have e : (nI (v * 32)).toInt = ((v * 32 : Nat) : Int) := nI_toInt (by omega)
        rw [fb_subI (by omega) (by omega), e]; omega
      refine nk_aload_n (i := 0) dX2_moveBy_22 rfl rfl ?_
      refine nk_getf fX2_39 dX2_moveBy_23 hq rfl ?_
      refine nk_iload_n (i := 3) dX2_moveBy_26 rfl rfl ?_
      refine nk_aload_n (i := 2) dX2_moveBy_27 rfl rfl ?_
      refine nk_iload_n (i := 3) dX2_moveBy_28 rfl rfl ?_
      refine nk_bipush (v := 32) dX2_moveBy_29 (by decide) ?_
      refine nk_imul dX2_moveBy_31 ?_
      refine nk_top (y := nI (v * 32)) (nk_x32 v) ?_
      refine nk_iload_n (i := 1) dX2_moveBy_32 rfl rfl ?_
      refine nk_isub dX2_moveBy_33 ?_
      refine nk_cSi kX2_74 (s_X2_cutOut ha (by omega) (by omega)) dX2_moveBy_34 rfl rfl (by decide) (Nat.le_of_ble_eq_true rfl) ?_
      refine nk_iload_n (i := 3) dX2_moveBy_37 rfl rfl ?_
      refine nk_iconst (v := 0) dX2_moveBy_38 (by decide) ?_
      refine nk_aload_n (i := 0) dX2_moveBy_39 rfl rfl ?_
      refine nk_getf fX2_18 dX2_moveBy_40 hq rfl ?_
      refine nk_iconst (v := 1) dX2_moveBy_43 (by decide) ?_
      refine nk_isub dX2_moveBy_44 ?_
      refine nk_cSi kX2_56 (s_X2_spanIn (by omega) (by decide) (by omega)) dX2_moveBy_45 rfl rfl (by decide) (Nat.le_of_ble_eq_true rfl) ?_
      refine nk_iand dX2_moveBy_48 ?_
      refine nk_top (y := (fun u : Nat => co f (nk_wm b) (32 * (u : Int) - x.toInt) &&& sw u 0 ((nk_tp b : Int) - 1)) v) (by rw [hm1, sd, show (0 : Int32).toInt = 0 from rfl]) ?_
      refine nk_iastN (j := v) dX2_moveBy_49 (nk_u_self _ _ _) (rfl) (by omega) (by omega) ?_
      refine nk_J.to ?_ rfl rfl (nk_u_u _ _ _ _)
      rw [fa_fill_succ]
      refine nk_iincT dX2_moveBy_50 rfl (nk_i1 v) (by decide) ?_
      refine nk_goto (tgt := 13) dX2_moveBy_53 (by decide) ?_
      exact ih (v + 1) (by omega) (by omega)
set_option maxRecDepth 20000 in
theorem s_X2_moveBy {G : nk_EG} {H : nk_AH} {q w j b : Nat} {κ : Int32} {f : Nat → Int32} (hk : cK H q w j κ b f) (hb2 : 2 ≤ b) (hb10 : b ≤ 10) {x : Int32} (hx : -9999 ≤ x.toInt ∧ x.toInt ≤ 9999) : nk_S G mX2_moveBy 4 1 32 [.ref q, .int x] H (nk_rv (nk_u H w (.inl (.int, nk_wm b, .inl (fa_fill (fun u : Nat => co f (nk_wm b) (32 * (u : Int) - x.toInt) &&& sw u 0 ((nk_tp b : Int) - 1)) f (nk_wm b)))))) := by
  refine nk_S.of (by decide +kernel) (Nat.le_of_ble_eq_true rfl) rfl ?_
  have hwm := wm_f b hb10 hb2
  refine nk_aload_n (i := 0) dX2_moveBy_0 rfl rfl ?_
  refine nk_getf fX2_39 dX2_moveBy_1 hk.1 rfl ?_
  refine nk_clone (bc' := 0) (bs' := 0) kX2_69 dX2_moveBy_4 hk.2 (by decide) (Nat.le_of_ble_eq_true rfl) ⟨Nat.le_refl _, by omega⟩ (fun c hc => ?_)
  refine nk_castI cX2_70 dX2_moveBy_7 (nk_u_self _ _ _) ?_
  refine nk_astore_nT (i := 2) dX2_moveBy_10 rfl (by decide) ?_
  refine nk_iconst (v := 0) dX2_moveBy_11 (by decide) ?_
  refine nk_istore_nT (i := 3) dX2_moveBy_12 rfl (by decide) ?_
  have hcw : c ≠ w := (nk_ne hk.2 hc).symm
  refine (l_moveBy hk hb2 hb10 hc hcw (nk_ne hk.1 hc) hx (nk_wm b + 1) 0 (by omega) (by omega)).to rfl rfl ?_
  rw [fa_fill_0]
  funext z
  by_cases e : z = w
  · subst e; rw [nk_u_self, nk_u_ne hcw.symm]; exact hk.2
  · rw [nk_u_ne e]
set_option maxRecDepth 20000 in
theorem s_X2_init {G : nk_EG} {H : nk_AH} {q j b : Nat} {κ : Int32} (hq : H q = some (.inr (2, [.int 0, .int 0, .int 0, .int 0, .int 0, .null]))) (hb2 : 2 ≤ b) (hb10 : b ≤ 10) : nk_S G mX2_init 2 1 32 [.ref q, .int (nI j), .int κ, .int (nI b)] H (fun r H' => r = none ∧ ∃ w, H w = none ∧ H' = nk_u (nk_u H w (.inl (.int, nk_wm b, .inl (fun _ => 0)))) q (.inr (2, [.int (nI j), .int κ, .int (nI (nk_tp b)), .int (nI (b / 2)), .int (nI (b - b / 2)), .ref w]))) := by
  refine nk_S.of (by decide +kernel) (Nat.le_of_ble_eq_true rfl) rfl ?_
  have hwm := wm_f b hb10 hb2
  refine nk_aload_n (i := 0) dX2_init_0 rfl rfl ?_
  refine nk_objInit kX2_3 nk_oi1 nk_oi2 dX2_init_1 (by decide) (Nat.le_of_ble_eq_true rfl) ?_
  refine nk_aload_n (i := 0) dX2_init_4 rfl rfl ?_
  refine nk_iload_n (i := 1) dX2_init_5 rfl rfl ?_
  refine nk_putF pX2_9 rfl (by intro q hq; cases hq; rfl) dX2_init_6 hq rfl rfl (Nat.le_of_ble_eq_true rfl) rfl ?_
  refine nk_aload_n (i := 0) dX2_init_9 rfl rfl ?_
  refine nk_iload_n (i := 2) dX2_init_10 rfl rfl ?_
  refine nk_putF pX2_15 rfl (by intro q hq; cases hq; rfl) dX2_init_11 (nk_u_self _ _ _) rfl rfl (Nat.le_of_ble_eq_true rfl) rfl ?_
  refine nk_J.to ?_ rfl rfl (nk_u_u _ _ _ _)
  refine nk_aload_n (i := 0) dX2_init_14 rfl rfl ?_
  refine nk_iconst (v := 1) dX2_init_15 (by decide) ?_
  refine nk_iload_n (i := 3) dX2_init_16 rfl rfl ?_
  refine nk_ishl dX2_init_17 ?_
  refine nk_top (y := nI (nk_tp b)) (by rw [nk_sh1 (by omega), hwm.2.2.2.2.2.1]) ?_
  refine nk_putF pX2_18 rfl (by intro q hq; cases hq; rfl) dX2_init_18 (nk_u_self _ _ _) rfl rfl (Nat.le_of_ble_eq_true rfl) rfl ?_
  refine nk_J.to ?_ rfl rfl (nk_u_u _ _ _ _)
  refine nk_aload_n (i := 0) dX2_init_21 rfl rfl ?_
  refine nk_iload_n (i := 3) dX2_init_22 rfl rfl ?_
  refine nk_cSi kX2_21 (s_X3_lowOf (by omega)) dX2_init_23 rfl rfl (by decide) (Nat.le_of_ble_eq_true rfl) ?_
  refine nk_putF pX2_27 rfl (by intro q hq; cases hq; rfl) dX2_init_26 (nk_u_self _ _ _) rfl rfl (Nat.le_of_ble_eq_true rfl) rfl ?_
  refine nk_J.to ?_ rfl rfl (nk_u_u _ _ _ _)
  refine nk_aload_n (i := 0) dX2_init_29 rfl rfl ?_
  refine nk_iload_n (i := 3) dX2_init_30 rfl rfl ?_
  refine nk_cSi kX2_30 (s_X3_highOf (by omega)) dX2_init_31 rfl rfl (by decide) (Nat.le_of_ble_eq_true rfl) ?_
  refine nk_putF pX2_33 rfl (by intro q hq; cases hq; rfl) dX2_init_34 (nk_u_self _ _ _) rfl rfl (Nat.le_of_ble_eq_true rfl) rfl ?_
  refine nk_J.to ?_ rfl rfl (nk_u_u _ _ _ _)
  refine nk_aload_n (i := 0) dX2_init_37 rfl rfl ?_
  refine nk_iload_n (i := 3) dX2_init_38 rfl rfl ?_
  refine nk_cSi kX2_36 (s_X2_wordsFor hb2 hb10) dX2_init_39 rfl rfl (by decide) (Nat.le_of_ble_eq_true rfl) ?_
  refine nk_newi (N := nk_wm b) (bc' := 0) (bs' := 0) nk_ac_int dX2_init_42 (rfl) (by omega) ⟨Nat.le_of_ble_eq_true rfl, by omega⟩ (fun c hc => ?_)
  have hne : q ≠ c := nk_ne (nk_u_self _ _ _) hc
  have hcH : H c = none := by rw [nk_u_ne hne.symm] at hc; exact hc
  refine nk_putF pX2_39 rfl (by intro q hq; cases hq; rfl) dX2_init_44 ((nk_u_ne hne).trans (nk_u_self _ _ _)) rfl rfl (Nat.le_of_ble_eq_true rfl) rfl ?_
  refine nk_J.to ?_ rfl rfl (nk_u_push hne)
  refine nk_vreturn dX2_init_47 rfl ?_
  exact ⟨rfl, c, hcH, rfl⟩

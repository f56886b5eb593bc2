/-! the class: shelves made, copied, drawn into -/
set_option maxRecDepth 20000 in
theorem s_X5_init {G : nk_EG} {H : nk_AH} {q b : Nat} (hq : H q = some (.inr (4, [.int 0, .int 0, .null, .int 0]))) (hb2 : 2 ≤ b) (hb10 : b ≤ 10) : nk_S G mX5_init 1 1 4 [.ref q, .int (nI b)] H (fun r H' => r = none ∧ ∃ a, H a = none ∧ H' = nk_u (nk_u H a (stc 0 id)) q (shc b a 0)) := by
  refine nk_S.of (by decide +kernel) (Nat.le_of_ble_eq_true rfl) rfl ?_
  have hwm := wm_f b hb10 hb2
  refine nk_aload_n (i := 0) dX5_init_0 rfl rfl ?_
  refine nk_objInit kX5_3 nk_oi1 nk_oi2 dX5_init_1 (by decide) (Nat.le_of_ble_eq_true rfl) ?_
  refine nk_aload_n (i := 0) dX5_init_4 rfl rfl ?_
  refine nk_iconst (v := 4) dX5_init_5 (by decide) ?_
  refine nk_newq (N := 4) (bc' := 0) (bs' := 0) 2 rfl (fun _ z => z.2.2.1) cX5_9 dX5_init_6 (rfl) (by decide) ⟨Nat.le_of_ble_eq_true rfl, Nat.le_of_ble_eq_true rfl⟩ (fun c hc => ?_)
  have hne : q ≠ c := nk_ne hq hc
  refine nk_putF pX5_11 rfl (by intro q hq; cases hq; rfl) dX5_init_9 ((nk_u_ne hne).trans hq) rfl rfl (Nat.le_of_ble_eq_true rfl) rfl ?_
  refine nk_aload_n (i := 0) dX5_init_12 rfl rfl ?_
  refine nk_iconst (v := 0) dX5_init_13 (by decide) ?_
  refine nk_putf pX5_17 dX5_init_14 (nk_u_self _ _ _) rfl rfl (Nat.le_of_ble_eq_true rfl) rfl ?_
  refine nk_J.to ?_ rfl rfl (nk_u_u _ _ _ _)
  refine nk_aload_n (i := 0) dX5_init_17 rfl rfl ?_
  refine nk_iload_n (i := 1) dX5_init_18 rfl rfl ?_
  refine nk_putF pX5_21 rfl (by intro q hq; cases hq; rfl) dX5_init_19 (nk_u_self _ _ _) rfl rfl (Nat.le_of_ble_eq_true rfl) rfl ?_
  refine nk_J.to ?_ rfl rfl (nk_u_u _ _ _ _)
  refine nk_aload_n (i := 0) dX5_init_22 rfl rfl ?_
  refine nk_iconst (v := 1) dX5_init_23 (by decide) ?_
  refine nk_iload_n (i := 1) dX5_init_24 rfl rfl ?_
  refine nk_ishl dX5_init_25 ?_
  refine nk_top (y := nI (nk_tp b)) (by rw [nk_sh1 (by omega), hwm.2.2.2.2.2.1]) ?_
  refine nk_putF pX5_24 rfl (by intro q hq; cases hq; rfl) dX5_init_26 (nk_u_self _ _ _) rfl rfl (Nat.le_of_ble_eq_true rfl) rfl ?_
  refine nk_J.to ?_ rfl rfl (nk_u_u _ _ _ _)
  refine nk_vreturn dX5_init_29 rfl ?_
  exact ⟨rfl, c, hc, rfl⟩
set_option maxRecDepth 20000 in
theorem s_X5_append {G : nk_EG} {H : nk_AH} {q a m b : Nat} {qs ws : Nat → Nat} {κ : Nat → Int32} {F : Nat → Nat → Int32} (hS : cS H q a m b qs ws κ F) (hm4 : m ≤ 4) (hb2 : 2 ≤ b) (hb10 : b ≤ 10) (hm3 : m < 4) {x : Int32} : nk_S G mX5_append 3 2 38 [.ref q, .int x] H (fun r H' => ∃ q1 w1, H q1 = none ∧ H w1 = none ∧ q1 ≠ w1 ∧ r = some (.ref q1) ∧ H' = ap H q a m b qs x q1 w1) := by
  refine nk_S.of (by decide +kernel) (Nat.le_of_ble_eq_true rfl) rfl ?_
  have hlt := nI_ltI (a := m) (b := 4) (by omega) (by omega)
  refine nk_aload_n (i := 0) dX5_append_0 rfl rfl ?_
  refine nk_getf fX5_17 dX5_append_1 hS.1 rfl ?_
  refine nk_iconst (v := 4) dX5_append_4 (by decide) ?_
  refine nk_icmplt (tgt := 10) dX5_append_5 (by decide) (fun _ => ?_) (fun h5 => by first | exact absurd ((hlt.mpr hm3)) h5 | exact absurd h5 ((hlt.mpr hm3)))
  refine nk_new (bc' := 1) (bs' := 32) nX5_9 dX5_append_10 ⟨Nat.le_of_ble_eq_true rfl, Nat.le_of_ble_eq_true rfl⟩ (fun q1 hq1 => ?_)
  have e1 := nk_ne hS.1 hq1
  have e2 := nk_ne hS.2.1 hq1
  refine nk_dup dX5_append_13 rfl ?_
  refine nk_aload_n (i := 0) dX5_append_14 rfl rfl ?_
  refine nk_getf fX5_17 dX5_append_15 ((nk_u_ne e1).trans hS.1) rfl ?_
  refine nk_iload_n (i := 1) dX5_append_18 rfl rfl ?_
  refine nk_aload_n (i := 0) dX5_append_19 rfl rfl ?_
  refine nk_getf fX5_21 dX5_append_20 ((nk_u_ne e1).trans hS.1) rfl ?_
  refine nk_cI (bc' := 0) (bs' := 0) kX5_27 (s_X2_init (j := m) (b := b) (κ := x) (nk_u_self _ _ _) hb2 hb10) dX5_append_23 rfl rfl (by decide) (Nat.le_of_ble_eq_true rfl) ⟨Nat.le_of_ble_eq_true rfl, Nat.le_of_ble_eq_true rfl⟩ (fun r H2 hr => ?_)
  obtain ⟨rfl, w1, hw1, rfl⟩ := hr
  have e5 : q1 ≠ w1 := nk_ne (nk_u_self _ _ _) hw1
  rw [nk_u_ne e5.symm] at hw1
  have e3 := nk_ne hS.1 hw1
  have e4 := nk_ne hS.2.1 hw1
  refine nk_J.to ?_ rfl rfl (nk_u_push e5)
  have h1 : nk_u (nk_u H w1 (inc (nk_wm b) (fun _ => 0))) q1 (kyc m x b w1) q = some (shc b a m) := by rw [nk_u_ne e1, nk_u_ne e3]; exact hS.1
  have h2 : nk_u (nk_u H w1 (inc (nk_wm b) (fun _ => 0))) q1 (kyc m x b w1) a = some (stc m qs) := by rw [nk_u_ne e2, nk_u_ne e4]; exact hS.2.1
  refine nk_astore_nT (i := 2) dX5_append_26 rfl (by decide) ?_
  refine nk_aload_n (i := 0) dX5_append_27 rfl rfl ?_
  refine nk_getf fX5_11 dX5_append_28 h1 rfl ?_
  refine nk_aload_n (i := 0) dX5_append_31 rfl rfl ?_
  refine nk_getf fX5_17 dX5_append_32 h1 rfl ?_
  refine nk_aload_n (i := 2) dX5_append_35 rfl rfl ?_
  refine nk_aastJ (j := m) 2 rfl rfl dX5_append_36 h2 (nk_u_self _ _ _) (rfl) (by omega) (by decide) ?_
  refine nk_J.to ?_ rfl rfl (by rw [show va_up (zq m qs) m (some q1) = zq (m + 1) (va_up qs m q1) from zq_up])
  have h3 : nk_u (nk_u (nk_u H w1 (inc (nk_wm b) (fun _ => 0))) q1 (kyc m x b w1)) a (stc (m + 1) (va_up qs m q1)) q = some (shc b a m) := by rw [nk_u_ne hS.qa]; exact h1
  refine nk_aload_n (i := 0) dX5_append_37 rfl rfl ?_
  refine nk_dup dX5_append_38 rfl ?_
  refine nk_getf fX5_17 dX5_append_39 h3 rfl ?_
  refine nk_iconst (v := 1) dX5_append_42 (by decide) ?_
  refine nk_iadd dX5_append_43 ?_
  refine nk_top (y := nI (m + 1)) (nI_1 m) ?_
  refine nk_putf pX5_17 dX5_append_44 h3 rfl rfl (Nat.le_of_ble_eq_true rfl) rfl ?_
  refine nk_aload_n (i := 2) dX5_append_47 rfl rfl ?_
  refine nk_areturn dX5_append_48 rfl ?_
  exact ⟨q1, w1, hq1, hw1, e5, rfl, rfl⟩
set_option maxRecDepth 20000 in
theorem s_X5_append4 {G : nk_EG} {H : nk_AH} {q a b : Nat} {qs ws : Nat → Nat} {κ : Nat → Int32} {F : Nat → Nat → Int32} (hS : cS H q a 4 b qs ws κ F) {x : Int32} : nk_Sq G mX5_append 3 [.ref q, .int x] H none H := by
  refine nk_S.of (by decide +kernel) (Nat.le_of_ble_eq_true rfl) rfl ?_
  refine nk_aload_n (i := 0) dX5_append_0 rfl rfl ?_
  refine nk_getf fX5_17 dX5_append_1 hS.1 rfl ?_
  refine nk_iconst (v := 4) dX5_append_4 (by decide) ?_
  refine nk_icmplt (tgt := 10) dX5_append_5 (by decide) (fun h5 => by first | exact absurd h5 (by decide) | exact absurd (by decide) h5) (fun _ => ?_)
  refine nk_null dX5_append_8 ?_
  refine nk_areturnN dX5_append_9 rfl ?_
  exact ⟨rfl, rfl⟩
set_option maxRecDepth 20000 in
theorem l_X5_twin {G : nk_EG} {H : nk_AH} {q a m b : Nat} {qs ws : Nat → Nat} {κ : Nat → Int32} {F : Nat → Nat → Int32} (hS : cS H q a m b qs ws κ F) (hm4 : m ≤ 4) (hb2 : 2 ≤ b) (hb10 : b ≤ 10) {q2 a2 : Nat} : ∀ (n s : Nat) (Hi : nk_AH) (qs2 ws2 : Nat → Nat) (l3 : Option Value) (h1 : s ≤ m) (h2 : m < s + n) (ht : tw H Hi q2 a2 s b qs2 ws2 κ F), nk_J G mX5_twin 4 (fun r H' => ∃ q2 a2 qs2 ws2, r = some (.ref q2) ∧ tw H H' q2 a2 m b qs2 ws2 κ F) (2 * (m - s)) (38 * (m - s)) 14 [some (.ref q), some (.ref q2), some (.int (nI s)), l3] [] Hi := by
  intro n
  induction n with
  | zero => intro s Hi qs2 ws2 l3 h1 h2 ht; omega
  | succ n ih =>
    intro s Hi qs2 ws2 l3 h1 h2 ht
    have hS' := hS.le ht.1
    have hwm := wm_f b hb10 hb2
    refine nk_iload_n (i := 2) dX5_twin_14 rfl rfl ?_
    refine nk_aload_n (i := 0) dX5_twin_15 rfl rfl ?_
    refine nk_getf fX5_17 dX5_twin_16 hS'.1 rfl ?_
    refine nk_icmpge (tgt := 59) dX5_twin_19 (by decide) (fun h19 => ?_) (fun h19 => ?_)
    · skip
      refine nk_aload_n (i := 1) dX5_twin_59 rfl rfl ?_
      refine nk_areturn dX5_twin_60 rfl ?_
      have e : s = m := Nat.le_antisymm h1 (nk_leI h19 (by omega) (by omega))
      subst e
      exact ⟨q2, a2, qs2, ws2, rfl, ht⟩
    · skip
      have hs := nk_nleI (a := m) h19 (by omega) (by omega)
      refine nk_aload_n (i := 1) dX5_twin_22 rfl rfl ?_
      refine nk_aload_n (i := 0) dX5_twin_23 rfl rfl ?_
      refine nk_getf fX5_11 dX5_twin_24 hS'.1 rfl ?_
      refine nk_iload_n (i := 2) dX5_twin_27 rfl rfl ?_
      refine nk_aaldN (j := s) 2 rfl rfl dX5_twin_28 hS'.2.1 (rfl) (by omega) (by decide) (zq_at hs) ?_
      refine nk_getf fX5_37 dX5_twin_29 (hS'.2.2 s hs).o rfl ?_
      refine nk_cV (bc' := 2 * (m - (s + 1))) (bs' := 38 * (m - (s + 1))) kX5_40 (s_X5_append ht.2.1 (by omega) hb2 hb10 (by omega)) dX5_twin_32 ht.2.1.1 rfl rfl (by decide) (Nat.le_of_ble_eq_true rfl) ⟨by omega, by omega⟩ (fun r H2 hr => ?_)
      obtain ⟨q1, w1, hq1, hw1, hn, rfl, rfl⟩ := hr
      have hS1 := hS.le (tw_le ht hq1 hw1 (κ1 := κ s))
      obtain ⟨fo, ho, hoe⟩ := hS1.2.2 s hs
      have hS2 := ap_S (κ1 := κ s) ht.2.1 hq1 hw1 hn
      obtain ⟨f1, hk1, -⟩ := hS2.2.2 s (by omega)
      simp only [va_up, if_pos] at hk1
      refine nk_astore_nT (i := 3) dX5_twin_35 rfl (by decide) ?_
      refine nk_aload_n (i := 3) dX5_twin_36 rfl rfl ?_
      refine nk_ifnullR dX5_twin_37 ?_
      refine nk_aload_n (i := 3) dX5_twin_40 rfl rfl ?_
      refine nk_aload_n (i := 0) dX5_twin_41 rfl rfl ?_
      refine nk_getf fX5_11 dX5_twin_42 hS1.1 rfl ?_
      refine nk_iload_n (i := 2) dX5_twin_45 rfl rfl ?_
      refine nk_aaldN (j := s) 2 rfl rfl dX5_twin_46 hS1.2.1 (rfl) (by omega) (by decide) (zq_at hs) ?_
      refine nk_getf fX5_44 dX5_twin_47 (hS1.2.2 s hs).o rfl ?_
      refine nk_cVv kX5_48 (s_X2_become hk1 hb2 hb10 ho.2 (Nat.le_refl _)) dX5_twin_50 hk1.1 rfl rfl (by decide) (Nat.le_of_ble_eq_true rfl) ?_
      refine nk_iincT dX5_twin_53 rfl (nk_i1 s) (by decide) ?_
      refine nk_goto (tgt := 14) dX5_twin_56 (by decide) ?_
      refine ih (s + 1) _ _ _ _ (by omega) (by omega) (tw_step ht hq1 hw1 hn (fun v hv => ?_))
      rw [← hoe v hv]
      unfold va_cpy
      rw [if_pos (by omega)]
      exact congrArg fo (by omega)
set_option maxRecDepth 20000 in
theorem s_X5_twin {G : nk_EG} {H : nk_AH} {q a m b : Nat} {qs ws : Nat → Nat} {κ : Nat → Int32} {F : Nat → Nat → Int32} (hS : cS H q a m b qs ws κ F) (hm4 : m ≤ 4) (hb2 : 2 ≤ b) (hb10 : b ≤ 10) : nk_S G mX5_twin 4 10 160 [.ref q] H (fun r H' => ∃ q2 a2 qs2 ws2, r = some (.ref q2) ∧ tw H H' q2 a2 m b qs2 ws2 κ F) := by
  refine nk_S.of (by decide +kernel) (Nat.le_of_ble_eq_true rfl) rfl ?_
  refine nk_new (bc' := 9) (bs' := 156) nX5_12 dX5_twin_0 ⟨Nat.le_of_ble_eq_true rfl, Nat.le_of_ble_eq_true rfl⟩ (fun q2 hq2 => ?_)
  have e1 := nk_ne hS.1 hq2
  refine nk_dup dX5_twin_3 rfl ?_
  refine nk_aload_n (i := 0) dX5_twin_4 rfl rfl ?_
  refine nk_getf fX5_21 dX5_twin_5 ((nk_u_ne e1).trans hS.1) rfl ?_
  refine nk_cI (bc' := 8) (bs' := 152) kX5_34 (s_X5_init (b := b) (nk_u_self _ _ _) hb2 hb10) dX5_twin_8 rfl rfl (by decide) (Nat.le_of_ble_eq_true rfl) ⟨Nat.le_of_ble_eq_true rfl, Nat.le_of_ble_eq_true rfl⟩ (fun r H2 hr => ?_)
  obtain ⟨rfl, a2, ha2, rfl⟩ := hr
  have e2 : q2 ≠ a2 := nk_ne (nk_u_self _ _ _) ha2
  rw [nk_u_ne e2.symm] at ha2
  refine nk_J.to ?_ rfl rfl (nk_u_push e2)
  refine nk_astore_nT (i := 1) dX5_twin_11 rfl (by decide) ?_
  refine nk_iconst (v := 0) dX5_twin_12 (by decide) ?_
  refine nk_istore_nT (i := 2) dX5_twin_13 rfl (by decide) ?_
  refine nk_J.less (bc' := 2 * (m - 0)) (bs' := 38 * (m - 0)) (by omega) (by omega) (l_X5_twin hS hm4 hb2 hb10 (m + 1) 0 _ id id _ (by omega) (by omega) ⟨fun x e hx => ?_, ⟨nk_u_self _ _ _, ?_, fun s hs => by omega⟩, hq2, ha2, fun s hs => by omega, fun s s' hs => by omega⟩)
  · rw [nk_u_ne (nk_ne hx hq2), nk_u_ne (nk_ne hx ha2)]; exact hx
  · rw [nk_u_ne e2.symm, nk_u_self]
set_option maxRecDepth 20000 in
theorem l_X5_draw {G : nk_EG} {H : nk_AH} {q a m b : Nat} {qs ws : Nat → Nat} {κ : Nat → Int32} {r : Nat → Int32} (hS : cS H q a m b qs ws κ (shF r 0)) (hj : ∀ s s', s < m → s' < m → ws s = ws s' → s = s') (h1m : 1 ≤ m) (hm4 : m ≤ 4) (hb2 : 2 ≤ b) (hb10 : b ≤ 10) {N : Nat} {sd : Int32} {T : Nat → Int32} (hN : N ≤ 200) : ∀ (n k x : Nat) (R : Nat → Int32) (Hi : nk_AH) (l6 l7 : Option Value) (h1 : k ≤ N) (h2 : N < k + n) (h3 : x < 2147483647) (hSi : cS Hi q a m b qs ws κ (shF R 0)) (hfr : ∀ x, (∀ s, s < m → x ≠ ws s) → Hi x = H x) (hT : dr_f m (nk_tp b) (N - k) x R = T), nk_J G mX5_draw 4 (fun z H' => z = none ∧ cS H' q a m b qs ws κ (shF T 0) ∧ ∀ x, (∀ s, s < m → x ≠ ws s) → H' x = H x) 0 0 14 [some (.ref q), some (.int (nI N)), some (.int sd), some (.long (lN x)), none, some (.int (nI k)), l6, l7] [] Hi := by
  intro n
  induction n with
  | zero => intro k x R Hi l6 l7 h1 h2 h3 hSi hfr hT; omega
  | succ n ih =>
    intro k x R Hi l6 l7 h1 h2 h3 hSi hfr hT
    have hwm := wm_f b hb10 hb2
    refine nk_iload dX5_draw_14 rfl ?_
    refine nk_iload_n (i := 1) dX5_draw_16 rfl rfl ?_
    refine nk_icmpge (tgt := 74) dX5_draw_17 (by decide) (fun h17 => ?_) (fun h17 => ?_)
    · skip
      refine nk_vreturn dX5_draw_74 rfl ?_
      have e : k = N := Nat.le_antisymm h1 (nk_leI h17 (by omega) (by omega))
      subst e
      rw [Nat.sub_self, dr_f] at hT
      subst hT
      exact ⟨rfl, hSi, hfr⟩
    · skip
      have hk := nk_nleI (a := N) h17 (by omega) (by omega)
      have hx1 := dr_x_lt x
      have hs := Nat.mod_lt (dr_x x) (show 0 < m by omega)
      have ht4 := Nat.mod_lt (dr_x x / 8) (show 0 < nk_tp b by omega)
      rw [dr_f_step hk] at hT
      obtain ⟨f, hf, hfe⟩ := hSi.2.2 _ hs
      refine nk_lload_n (i := 3) dX5_draw_20 rfl rfl ?_
      refine nk_ldc2 qX5_81 dX5_draw_21 ?_
      refine nk_lmul dX5_draw_24 ?_
      refine nk_ldc2 qX5_83 dX5_draw_25 ?_
      refine nk_lrem dX5_draw_28 (by decide) ?_
      refine nk_topl (y := lN (dr_x x)) (by rw [show (16807 : Int64) = lN 16807 from rfl, show (2147483647 : Int64) = lN 2147483647 from rfl, lN_mul, pk_lRem (by omega) (by omega) (by omega)]; rfl) ?_
      refine nk_lstore_nT (i := 3) dX5_draw_29 rfl (by decide) ?_
      refine nk_aload_n (i := 0) dX5_draw_30 rfl rfl ?_
      refine nk_getf fX5_11 dX5_draw_31 hSi.1 rfl ?_
      refine nk_lload_n (i := 3) dX5_draw_34 rfl rfl ?_
      refine nk_aload_n (i := 0) dX5_draw_35 rfl rfl ?_
      refine nk_getf fX5_17 dX5_draw_36 hSi.1 rfl ?_
      refine nk_i2l dX5_draw_39 ?_
      refine nk_topl (y := lN m) (nI_l (by omega)) ?_
      refine nk_lrem dX5_draw_40 (nk_lne0 (by omega) (by omega)) ?_
      refine nk_topl (y := lN (dr_x x % m)) (pk_lRem (by omega) (by omega) (by omega)) ?_
      refine nk_l2i dX5_draw_41 ?_
      refine nk_top (y := nI (dr_x x % m)) (lN_i _) ?_
      refine nk_aaldN (j := dr_x x % m) 2 rfl rfl dX5_draw_42 hSi.2.1 (rfl) (by omega) (by decide) (zq_at hs) ?_
      refine nk_astoreT dX5_draw_43 (by decide) ?_
      refine nk_lload_n (i := 3) dX5_draw_45 rfl rfl ?_
      refine nk_ldc2 qX5_85 dX5_draw_46 ?_
      refine nk_ldiv dX5_draw_49 (by decide) ?_
      refine nk_topl (y := lN (dr_x x / 8)) (pk_lDiv (b := 8) (by omega) (by omega) (by omega)) ?_
      refine nk_aload_n (i := 0) dX5_draw_50 rfl rfl ?_
      refine nk_getf fX5_24 dX5_draw_51 hSi.1 rfl ?_
      refine nk_i2l dX5_draw_54 ?_
      refine nk_topl (y := lN (nk_tp b)) (nI_l (by omega)) ?_
      refine nk_lrem dX5_draw_55 (nk_lne0 (by omega) (by omega)) ?_
      refine nk_topl (y := lN (dr_x x / 8 % nk_tp b)) (pk_lRem (by omega) (by omega) (by omega)) ?_
      refine nk_l2i dX5_draw_56 ?_
      refine nk_top (y := nI (dr_x x / 8 % nk_tp b)) (lN_i _) ?_
      refine nk_istoreT dX5_draw_57 (by decide) ?_
      refine nk_aload dX5_draw_59 rfl ?_
      refine nk_iload dX5_draw_61 rfl ?_
      refine nk_iload dX5_draw_63 rfl ?_
      refine nk_cVv kX5_87 (s_X2_turn hf hb2 hb10 (a := dr_x x / 8 % nk_tp b) (c := dr_x x / 8 % nk_tp b) (Nat.le_refl _) ht4) dX5_draw_65 hf.1 rfl rfl (by decide) (Nat.le_of_ble_eq_true rfl) ?_
      refine nk_iincT dX5_draw_68 rfl (nk_i1 k) (by decide) ?_
      refine nk_goto (tgt := 14) dX5_draw_71 (by decide) ?_
      refine ih (k + 1) (dr_x x) _ _ _ _ (by omega) (by omega) hx1 (hSi.put hj hs (F' := shF (a_tk R (dr_x x % m) (dr_x x / 8 % nk_tp b)) 0) (fun v hv => ?_) (fun s' hs' hne v hv => ?_)) (fun x hx => ?_) hT
      · refine Eq.trans ?_ tnf_one
        unfold tnf
        rw [hfe v hv]
      · exact (a_tk_other (fun z => hne z.symm) (by omega) (by omega)).symm
      · rw [nk_u_ne (hx _ hs)]; exact hfr x hx
set_option maxRecDepth 20000 in
theorem s_X5_draw {G : nk_EG} {H : nk_AH} {q a m b : Nat} {qs ws : Nat → Nat} {κ : Nat → Int32} {r : Nat → Int32} (hS : cS H q a m b qs ws κ (shF r 0)) (hj : ∀ s s', s < m → s' < m → ws s = ws s' → s = s') (h1m : 1 ≤ m) (hm4 : m ≤ 4) (hb2 : 2 ≤ b) (hb10 : b ≤ 10) {N x : Nat} (hN : N ≤ 200) (hx : x ≤ 999999) : nk_S G mX5_draw 4 0 0 [.ref q, .int (nI N), .int (nI x)] H (fun z H' => z = none ∧ cS H' q a m b qs ws κ (shF (dr_f m (nk_tp b) N x r) 0) ∧ ∀ x, (∀ s, s < m → x ≠ ws s) → H' x = H x) := by
  refine nk_S.of (by decide +kernel) (Nat.le_of_ble_eq_true rfl) rfl ?_
  have hne : ¬ nI m = 0 := fun z => by have := nk_eqI (b := 0) z (by omega) (by omega); omega
  refine nk_aload_n (i := 0) dX5_draw_0 rfl rfl ?_
  refine nk_getf fX5_17 dX5_draw_1 hS.1 rfl ?_
  refine nk_ifne (tgt := 8) dX5_draw_4 (by decide) (fun _ => ?_) (fun h4 => by first | exact absurd (hne) h4 | exact absurd h4 (hne))
  refine nk_iload_n (i := 2) dX5_draw_8 rfl rfl ?_
  refine nk_i2l dX5_draw_9 ?_
  refine nk_topl (y := lN x) (nI_l (by omega)) ?_
  refine nk_lstore_nT (i := 3) dX5_draw_10 rfl (by decide) ?_
  refine nk_iconst (v := 0) dX5_draw_11 (by decide) ?_
  refine nk_istoreT dX5_draw_12 (by decide) ?_
  exact l_X5_draw hS hj h1m hm4 hb2 hb10 hN (N + 1) 0 x r _ _ _ (by omega) (by omega) (by omega) hS (fun _ _ => rfl) rfl

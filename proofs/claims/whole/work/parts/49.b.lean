/-! the class: acts kept, taken back -/
set_option maxRecDepth 20000 in
theorem s_X0_forget {G : nk_EG} {H : nk_AH} {q a1 a2 c u : Nat} {z : Nat → Option Nat} {bf : Nat → Nat} (hA : cA0 H q a1 a2 z bf c u) : nk_Sv G mX0_forget 1 [.ref q] H (nk_u H q (acc a1 a2 c 0)) := by
  refine nk_S.of (by decide +kernel) (Nat.le_of_ble_eq_true rfl) rfl ?_
  refine nk_aload_n (i := 0) dX0_forget_0 rfl rfl ?_
  refine nk_iconst (v := 0) dX0_forget_1 (by decide) ?_
  refine nk_putf pX0_26 dX0_forget_2 hA.1 rfl rfl (Nat.le_of_ble_eq_true rfl) rfl ?_
  refine nk_vreturn dX0_forget_5 rfl ?_
  exact ⟨rfl, rfl⟩
set_option maxRecDepth 20000 in
theorem s_X0_keep {G : nk_EG} {H : nk_AH} {q a1 a2 c u : Nat} {z : Nat → Option Nat} {bf : Nat → Nat} (hA : cA0 H q a1 a2 z bf c u) (hc : c < 24) (hu : u ≤ 24) {q1 w1 j b : Nat} {κ : Int32} {f : Nat → Int32} (hk : cK H q1 w1 j κ b f) (hb2 : 2 ≤ b) (hb10 : b ≤ 10) {g : Nat → Int32} (hg : H (bf c) = some (inc 32 g)) : nk_Sv G mX0_keep 2 [.ref q, .ref q1] H (nk_u (nk_u (nk_u H a1 (chc (va_up z c (some q1)))) (bf c) (inc 32 (va_cpy f g 0 0 (nk_wm b)))) q (acc a1 a2 ((c + 1) % 24) (min (u + 1) 24))) := by
  refine nk_S.of (by decide +kernel) (Nat.le_of_ble_eq_true rfl) rfl ?_
  have hwm := wm_f b hb10 hb2
  have e1 : q ≠ a1 := nk_cdif hA.1 hA.2.1 (by intro z; cases z)
  have e2 : q1 ≠ a1 := nk_cdif hk.1 hA.2.1 (by intro z; cases z)
  have e3 : w1 ≠ a1 := nk_cdif hk.2 hA.2.1 (by intro z; simp at z)
  have e4 : a2 ≠ a1 := nk_cdif hA.2.2 hA.2.1 (by intro z; simp at z)
  have e5 : bf c ≠ a1 := nk_cdif hg hA.2.1 (by intro z; simp at z)
  have e6 : q ≠ bf c := nk_cdif hA.1 hg (by intro z; cases z)
  have e0 : (nI (nk_wm b)).toNatClampNeg = nk_wm b := nI_clamp (by omega)
  refine nk_aload_n (i := 0) dX0_keep_0 rfl rfl ?_
  refine nk_getf fX0_11 dX0_keep_1 hA.1 rfl ?_
  refine nk_aload_n (i := 0) dX0_keep_4 rfl rfl ?_
  refine nk_getf fX0_22 dX0_keep_5 hA.1 rfl ?_
  refine nk_aload_n (i := 1) dX0_keep_8 rfl rfl ?_
  refine nk_aastJ (j := c) 2 rfl rfl dX0_keep_9 hA.2.1 hk.1 (rfl) (by omega) (by decide) ?_
  refine nk_aload_n (i := 1) dX0_keep_10 rfl rfl ?_
  refine nk_getf fX0_29 dX0_keep_11 ((nk_u_ne e2).trans hk.1) rfl ?_
  refine nk_iconst (v := 0) dX0_keep_14 (by decide) ?_
  refine nk_aload_n (i := 0) dX0_keep_15 rfl rfl ?_
  refine nk_getf fX0_19 dX0_keep_16 ((nk_u_ne e1).trans hA.1) rfl ?_
  refine nk_aload_n (i := 0) dX0_keep_19 rfl rfl ?_
  refine nk_getf fX0_22 dX0_keep_20 ((nk_u_ne e1).trans hA.1) rfl ?_
  refine nk_aaldN (j := c) 5 rfl rfl dX0_keep_23 ((nk_u_ne e4).trans hA.2.2) (rfl) (by omega) (by decide) (bf_at hc) ?_
  refine nk_iconst (v := 0) dX0_keep_24 (by decide) ?_
  refine nk_aload_n (i := 1) dX0_keep_25 rfl rfl ?_
  refine nk_getf fX0_29 dX0_keep_26 ((nk_u_ne e2).trans hk.1) rfl ?_
  refine nk_alen 0 rfl dX0_keep_29 ((nk_u_ne e3).trans hk.2) rfl ?_
  refine nk_top (y := nI (nk_wm b)) (nk_len _) ?_
  refine nk_copy kX0_33 nk_cp1 nk_cp2 nk_cp3 dX0_keep_30 ((nk_u_ne e3).trans hk.2) ((nk_u_ne e5).trans hg) (by decide) (by decide) (fun z => by have := nk_ltI (b := 0) z (by omega) (by omega); omega) (by rw [e0]; show 0 + nk_wm b ≤ _; omega) (by rw [e0]; show 0 + nk_wm b ≤ _; omega) (by decide) (Nat.le_of_ble_eq_true rfl) ?_
  rw [e0]
  have h7 : nk_u (nk_u H a1 (chc (va_up z c (some q1)))) (bf c) (inc 32 (va_cpy f g 0 0 (nk_wm b))) q = some (acc a1 a2 c u) := by rw [nk_u_ne e6, nk_u_ne e1]; exact hA.1
  show nk_J G mX0_keep 2 _ 0 0 33 _ [] (nk_u (nk_u H a1 (chc (va_up z c (some q1)))) (bf c) (inc 32 (va_cpy f g 0 0 (nk_wm b))))
  refine nk_aload_n (i := 0) dX0_keep_33 rfl rfl ?_
  refine nk_aload_n (i := 0) dX0_keep_34 rfl rfl ?_
  refine nk_getf fX0_22 dX0_keep_35 h7 rfl ?_
  refine nk_iconst (v := 1) dX0_keep_38 (by decide) ?_
  refine nk_iadd dX0_keep_39 ?_
  refine nk_bipush (v := 24) dX0_keep_40 (by decide) ?_
  refine nk_irem dX0_keep_42 (by decide) ?_
  refine nk_top (y := nI ((c + 1) % 24)) (nk_r24 hc) ?_
  refine nk_putf pX0_22 dX0_keep_43 h7 rfl rfl (Nat.le_of_ble_eq_true rfl) rfl ?_
  refine nk_aload_n (i := 0) dX0_keep_46 rfl rfl ?_
  refine nk_aload_n (i := 0) dX0_keep_47 rfl rfl ?_
  refine nk_getf fX0_26 dX0_keep_48 (nk_u_self _ _ _) rfl ?_
  refine nk_iconst (v := 1) dX0_keep_51 (by decide) ?_
  refine nk_iadd dX0_keep_52 ?_
  refine nk_top (y := nI (u + 1)) (nI_1 u) ?_
  refine nk_bipush (v := 24) dX0_keep_53 (by decide) ?_
  refine nk_cSi kX0_39 (s_J9_min_7cf53) dX0_keep_55 rfl rfl (by decide) (Nat.le_of_ble_eq_true rfl) ?_
  refine nk_top (y := nI (min (u + 1) 24)) (nk_min24 hu) ?_
  refine nk_putf pX0_26 dX0_keep_58 (nk_u_self _ _ _) rfl rfl (Nat.le_of_ble_eq_true rfl) rfl ?_
  refine nk_J.to ?_ rfl rfl (nk_u_u _ _ _ _)
  refine nk_vreturn dX0_keep_61 rfl ?_
  exact ⟨rfl, rfl⟩
set_option maxRecDepth 20000 in
theorem s_X0_takeBack {G : nk_EG} {H : nk_AH} {q a1 a2 c u : Nat} {z : Nat → Option Nat} {bf : Nat → Nat} (hA : cA0 H q a1 a2 z bf c u) (hc : c < 24) (hu : u ≤ 24) (hu1 : 1 ≤ u) {q1 w1 j b : Nat} {κ : Int32} {f : Nat → Int32} (hk : cK H q1 w1 j κ b f) (hb2 : 2 ≤ b) (hb10 : b ≤ 10) {g : Nat → Int32} (hz : z ((c + 23) % 24) = some q1) (hg : H (bf ((c + 23) % 24)) = some (inc 32 g)) : nk_Sv G mX0_takeBack 2 [.ref q] H (nk_u (nk_u H q (acc a1 a2 ((c + 23) % 24) (u - 1))) w1 (inc (nk_wm b) (va_cpy g f 0 0 (nk_wm b)))) := by
  refine nk_S.of (by decide +kernel) (Nat.le_of_ble_eq_true rfl) rfl ?_
  have hwm := wm_f b hb10 hb2
  have e1 : q ≠ a1 := nk_cdif hA.1 hA.2.1 (by intro z; cases z)
  have e2 : q ≠ a2 := nk_cdif hA.1 hA.2.2 (by intro z; cases z)
  have e3 : q ≠ q1 := nk_cdif hA.1 hk.1 (by intro z; simp at z)
  have e4 : q ≠ w1 := nk_cdif hA.1 hk.2 (by intro z; cases z)
  have e5 : q ≠ bf ((c + 23) % 24) := nk_cdif hA.1 hg (by intro z; cases z)
  have hc2 : (c + 23) % 24 < 24 := Nat.mod_lt _ (by omega)
  have hk2 : cK (nk_u H q (acc a1 a2 ((c + 23) % 24) (u - 1))) q1 w1 j κ b f := ⟨by rw [nk_u_ne e3.symm]; exact hk.1, by rw [nk_u_ne e4.symm]; exact hk.2⟩
  refine nk_aload_n (i := 0) dX0_takeBack_0 rfl rfl ?_
  refine nk_aload_n (i := 0) dX0_takeBack_1 rfl rfl ?_
  refine nk_getf fX0_22 dX0_takeBack_2 hA.1 rfl ?_
  refine nk_bipush (v := 24) dX0_takeBack_5 (by decide) ?_
  refine nk_iadd dX0_takeBack_7 ?_
  refine nk_iconst (v := 1) dX0_takeBack_8 (by decide) ?_
  refine nk_isub dX0_takeBack_9 ?_
  refine nk_bipush (v := 24) dX0_takeBack_10 (by decide) ?_
  refine nk_irem dX0_takeBack_12 (by decide) ?_
  refine nk_top (y := nI ((c + 23) % 24)) (nk_r23 hc) ?_
  refine nk_putf pX0_22 dX0_takeBack_13 hA.1 rfl rfl (Nat.le_of_ble_eq_true rfl) rfl ?_
  refine nk_aload_n (i := 0) dX0_takeBack_16 rfl rfl ?_
  refine nk_dup dX0_takeBack_17 rfl ?_
  refine nk_getf fX0_26 dX0_takeBack_18 (nk_u_self _ _ _) rfl ?_
  refine nk_iconst (v := 1) dX0_takeBack_21 (by decide) ?_
  refine nk_isub dX0_takeBack_22 ?_
  refine nk_top (y := nI (u - 1)) (pk_sub (b := 1) hu1) ?_
  refine nk_putf pX0_26 dX0_takeBack_23 (nk_u_self _ _ _) rfl rfl (Nat.le_of_ble_eq_true rfl) rfl ?_
  refine nk_J.to ?_ rfl rfl (nk_u_u _ _ _ _)
  refine nk_aload_n (i := 0) dX0_takeBack_26 rfl rfl ?_
  refine nk_getf fX0_11 dX0_takeBack_27 (nk_u_self _ _ _) rfl ?_
  refine nk_aload_n (i := 0) dX0_takeBack_30 rfl rfl ?_
  refine nk_getf fX0_22 dX0_takeBack_31 (nk_u_self _ _ _) rfl ?_
  refine nk_aaldN (j := (c + 23) % 24) 2 rfl rfl dX0_takeBack_34 ((nk_u_ne e1.symm).trans hA.2.1) (rfl) (by omega) (by decide) (show va_rf (z ((c + 23) % 24)) = .ref q1 by rw [hz]; rfl) ?_
  refine nk_astore_nT (i := 1) dX0_takeBack_35 rfl (by decide) ?_
  refine nk_aload_n (i := 1) dX0_takeBack_36 rfl rfl ?_
  refine nk_ifnullR dX0_takeBack_37 ?_
  refine nk_aload_n (i := 1) dX0_takeBack_40 rfl rfl ?_
  refine nk_aload_n (i := 0) dX0_takeBack_41 rfl rfl ?_
  refine nk_getf fX0_19 dX0_takeBack_42 (nk_u_self _ _ _) rfl ?_
  refine nk_aload_n (i := 0) dX0_takeBack_45 rfl rfl ?_
  refine nk_getf fX0_22 dX0_takeBack_46 (nk_u_self _ _ _) rfl ?_
  refine nk_aaldN (j := (c + 23) % 24) 5 rfl rfl dX0_takeBack_49 ((nk_u_ne e2.symm).trans hA.2.2) (rfl) (by omega) (by decide) (bf_at hc2) ?_
  refine nk_cVv kX0_45 (s_X2_become hk2 hb2 hb10 ((nk_u_ne e5.symm).trans hg) (by omega)) dX0_takeBack_50 hk2.1 rfl rfl (by decide) (Nat.le_of_ble_eq_true rfl) ?_
  refine nk_vreturn dX0_takeBack_53 rfl ?_
  exact ⟨rfl, rfl⟩

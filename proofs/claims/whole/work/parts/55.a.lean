/-! the class: the tape made, fed -/
set_option maxRecDepth 20000 in
theorem s_X6_append {G : nk_EG} {H : nk_AH} {q y l : Nat} {f : Nat → Int32} {x1 x2 x3 x4 x5 x : Int32} (hq : H q = some (tpc y l x1 x2 x3 x4 x5)) (hy : H y = some (inc 110 f)) (hl : l < 110) : nk_Si G mX6_append 1 [.ref q, .int x] H (nI (l + 1)) (nk_u (nk_u H y (inc 110 (upd f l x))) q (tpc y (l + 1) x1 x2 x3 x4 x5)) := by
  refine nk_S.of (by decide +kernel) (Nat.le_of_ble_eq_true rfl) rfl ?_
  have hqy : q ≠ y := nk_cdif hq hy (by intro z; cases z)
  refine nk_aload_n (i := 0) dX6_append_0 rfl rfl ?_
  refine nk_getf fX6_9 dX6_append_1 hq rfl ?_
  refine nk_aload_n (i := 0) dX6_append_4 rfl rfl ?_
  refine nk_getf fX6_15 dX6_append_5 hq rfl ?_
  refine nk_iload_n (i := 1) dX6_append_8 rfl rfl ?_
  refine nk_iastN (j := l) dX6_append_9 hy (rfl) (by omega) (by decide) ?_
  refine nk_aload_n (i := 0) dX6_append_10 rfl rfl ?_
  refine nk_dup dX6_append_11 rfl ?_
  refine nk_getf fX6_15 dX6_append_12 ((nk_u_ne hqy).trans hq) rfl ?_
  refine nk_iconst (v := 1) dX6_append_15 (by decide) ?_
  refine nk_iadd dX6_append_16 ?_
  refine nk_top (y := nI (l + 1)) (nI_1 l) ?_
  refine nk_putf pX6_15 dX6_append_17 ((nk_u_ne hqy).trans hq) rfl rfl (Nat.le_of_ble_eq_true rfl) rfl ?_
  refine nk_aload_n (i := 0) dX6_append_20 rfl rfl ?_
  refine nk_getf fX6_15 dX6_append_21 (nk_u_self _ _ _) rfl ?_
  refine nk_ireturn dX6_append_24 rfl ?_
  exact ⟨rfl, rfl⟩
set_option maxRecDepth 20000 in
theorem s_X6_init {G : nk_EG} {H : nk_AH} {q : Nat} (hq : H q = some (.inr (5, [.null, .int 0, .int 0, .int 0, .int 0, .int 0, .int 0]))) : nk_S G mX6_init 1 1 110 [.ref q] H (fun r H' => r = none ∧ ∃ a, H a = none ∧ H' = nk_u (nk_u H a (inc 110 (fun _ => 0))) q (tpc a 0 0 0 257 0 0)) := by
  refine nk_S.of (by decide +kernel) (Nat.le_of_ble_eq_true rfl) rfl ?_
  refine nk_aload_n (i := 0) dX6_init_0 rfl rfl ?_
  refine nk_objInit kX6_3 nk_oi1 nk_oi2 dX6_init_1 (by decide) (Nat.le_of_ble_eq_true rfl) ?_
  refine nk_aload_n (i := 0) dX6_init_4 rfl rfl ?_
  refine nk_bipush (v := 110) dX6_init_5 (by decide) ?_
  refine nk_newi (N := 110) (bc' := 0) (bs' := 0) nk_ac_int dX6_init_7 (rfl) (by decide) ⟨Nat.le_of_ble_eq_true rfl, Nat.le_of_ble_eq_true rfl⟩ (fun c hc => ?_)
  have hne : q ≠ c := nk_ne hq hc
  refine nk_putF pX6_9 rfl (by intro q hq; cases hq; rfl) dX6_init_9 ((nk_u_ne hne).trans hq) rfl rfl (Nat.le_of_ble_eq_true rfl) rfl ?_
  refine nk_aload_n (i := 0) dX6_init_12 rfl rfl ?_
  refine nk_iconst (v := 0) dX6_init_13 (by decide) ?_
  refine nk_putf pX6_15 dX6_init_14 (nk_u_self _ _ _) rfl rfl (Nat.le_of_ble_eq_true rfl) rfl ?_
  refine nk_J.to ?_ rfl rfl (nk_u_u _ _ _ _)
  refine nk_aload_n (i := 0) dX6_init_17 rfl rfl ?_
  refine nk_iconst (v := 0) dX6_init_18 (by decide) ?_
  refine nk_putf pX6_19 dX6_init_19 (nk_u_self _ _ _) rfl rfl (Nat.le_of_ble_eq_true rfl) rfl ?_
  refine nk_J.to ?_ rfl rfl (nk_u_u _ _ _ _)
  refine nk_aload_n (i := 0) dX6_init_22 rfl rfl ?_
  refine nk_iconst (v := 0) dX6_init_23 (by decide) ?_
  refine nk_putf pX6_22 dX6_init_24 (nk_u_self _ _ _) rfl rfl (Nat.le_of_ble_eq_true rfl) rfl ?_
  refine nk_J.to ?_ rfl rfl (nk_u_u _ _ _ _)
  refine nk_aload_n (i := 0) dX6_init_27 rfl rfl ?_
  refine nk_sipush (v := 257) dX6_init_28 (by decide) ?_
  refine nk_putf pX6_25 dX6_init_31 (nk_u_self _ _ _) rfl rfl (Nat.le_of_ble_eq_true rfl) rfl ?_
  refine nk_J.to ?_ rfl rfl (nk_u_u _ _ _ _)
  refine nk_aload_n (i := 0) dX6_init_34 rfl rfl ?_
  refine nk_iconst (v := 0) dX6_init_35 (by decide) ?_
  refine nk_putf pX6_28 dX6_init_36 (nk_u_self _ _ _) rfl rfl (Nat.le_of_ble_eq_true rfl) rfl ?_
  refine nk_J.to ?_ rfl rfl (nk_u_u _ _ _ _)
  refine nk_aload_n (i := 0) dX6_init_39 rfl rfl ?_
  refine nk_iconst (v := 0) dX6_init_40 (by decide) ?_
  refine nk_putf pX6_31 dX6_init_41 (nk_u_self _ _ _) rfl rfl (Nat.le_of_ble_eq_true rfl) rfl ?_
  refine nk_J.to ?_ rfl rfl (nk_u_u _ _ _ _)
  refine nk_vreturn dX6_init_44 rfl ?_
  exact ⟨rfl, c, hc, rfl⟩

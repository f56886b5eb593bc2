/-! the class: a new object -/
set_option maxRecDepth 20000 in
theorem s_X7_init {G : nk_EG} {o : Nat} : nk_S G mX7_init 15 33 965 [.ref o] (nk_u nk_E o (.inr (6, [.null, .null, .null, .null, .null, .null, .int 0, .int 0]))) (fun v K' => v = none ∧ ∃ g, cW K' g o A0 I0 0 0 0 0 0) := by
  refine nk_S.of (by decide +kernel) (Nat.le_of_ble_eq_true rfl) rfl ?_
  refine nk_aload_n (i := 0) dX7_init_0 rfl rfl ?_
  refine nk_objInit kX7_1 nk_oi1 nk_oi2 dX7_init_1 (by decide) (Nat.le_of_ble_eq_true rfl) ?_
  refine nk_aload_n (i := 0) dX7_init_4 rfl rfl ?_
  refine nk_bipush (v := 8) dX7_init_5 (by decide) ?_
  refine nk_newq (N := 8) (bc' := 32) (bs' := 957) 3 rfl (fun _ z => z.2.2.2.1) cX7_9 dX7_init_7 (rfl) (by decide) ⟨Nat.le_of_ble_eq_true rfl, Nat.le_of_ble_eq_true rfl⟩ (fun a1 ha1 => ?_)
  have n1 := nk_two ha1
  refine nk_putF pX7_11 rfl (by intro q hq; cases hq; rfl) dX7_init_10 ((nk_u_ne n1.1.symm).trans (nk_u_self _ _ _)) rfl rfl (Nat.le_of_ble_eq_true rfl) rfl ?_
  refine nk_J.to ?_ rfl rfl (nk_sw2 n1.1)
  refine nk_aload_n (i := 0) dX7_init_13 rfl rfl ?_
  refine nk_new (bc' := 31) (bs' := 950) nX7_15 dX7_init_14 ⟨Nat.le_of_ble_eq_true rfl, Nat.le_of_ble_eq_true rfl⟩ (fun a2 ha2 => ?_)
  have n2 := nk_two ha2
  refine nk_dup dX7_init_17 rfl ?_
  refine nk_cIN (bc' := 30) (bs' := 840) kX7_17 (s_X6_init (nk_u_self _ _ _)) dX7_init_18 rfl rfl (by decide) (Nat.le_of_ble_eq_true rfl) ⟨Nat.le_of_ble_eq_true rfl, Nat.le_of_ble_eq_true rfl⟩ (fun rr H2 hr => ?_)
  obtain ⟨rfl, y2, hy2, rfl⟩ := hr
  have m2 : a2 ≠ y2 := nk_ne (nk_u_self _ _ _) hy2
  rw [nk_u_ne m2.symm] at hy2
  have l2 := nk_two hy2
  refine nk_J.to ?_ rfl rfl (nk_sw3 n2.1 l2.1 m2)
  refine nk_putF pX7_18 rfl (by intro q hq; cases hq; rfl) dX7_init_21 (nk_u_self _ _ _) rfl rfl (Nat.le_of_ble_eq_true rfl) rfl ?_
  refine nk_J.to ?_ rfl rfl (nk_u_u _ _ _ _)
  refine nk_aload_n (i := 0) dX7_init_24 rfl rfl ?_
  refine nk_iconst (v := 2) dX7_init_25 (by decide) ?_
  refine nk_newq (N := 2) (bc' := 29) (bs' := 838) 4 rfl (fun _ z => z.2.2.2.2.1) cX7_22 dX7_init_26 (rfl) (by decide) ⟨Nat.le_of_ble_eq_true rfl, Nat.le_of_ble_eq_true rfl⟩ (fun a3 ha3 => ?_)
  have n3 := nk_two ha3
  refine nk_putF pX7_24 rfl (by intro q hq; cases hq; rfl) dX7_init_29 ((nk_u_ne n3.1.symm).trans (nk_u_self _ _ _)) rfl rfl (Nat.le_of_ble_eq_true rfl) rfl ?_
  refine nk_J.to ?_ rfl rfl (nk_sw2 n3.1)
  refine nk_aload_n (i := 0) dX7_init_32 rfl rfl ?_
  refine nk_new (bc' := 28) (bs' := 834) nX7_28 dX7_init_33 ⟨Nat.le_of_ble_eq_true rfl, Nat.le_of_ble_eq_true rfl⟩ (fun a4 ha4 => ?_)
  have n4 := nk_two ha4
  refine nk_dup dX7_init_36 rfl ?_
  refine nk_cIN (bc' := 2) (bs' := 18) kX7_30 (s_X0_init (nk_u_self _ _ _)) dX7_init_37 rfl rfl (by decide) (Nat.le_of_ble_eq_true rfl) ⟨Nat.le_of_ble_eq_true rfl, Nat.le_of_ble_eq_true rfl⟩ (fun rr H2 hr => ?_)
  obtain ⟨rfl, b1, bq, hb1, hbq, hbb, rfl⟩ := hr
  have m4 : a4 ≠ b1 := nk_ne (nk_u_self _ _ _) hb1
  rw [nk_u_ne m4.symm] at hb1
  have l4 := nk_two hb1
  have hbq2 : ∀ i, i ≤ 24 → (bq + i ≠ o ∧ bq + i ≠ a4) := fun i hi => by
    have z := hbq i hi
    have z1 : bq + i ≠ a4 := fun e => by rw [e, nk_u_self] at z; cases z
    rw [nk_u_ne z1] at z
    exact ⟨(nk_two z).1, z1⟩
  have hbq3 := fun i (hi : i ≤ 24) => by
    have z := hbq i hi
    rw [nk_u_ne (hbq2 i hi).2] at z
    exact (nk_two z).2
  refine nk_J.to ?_ rfl rfl (nk_sw4 n4.1 l4.1 m4 hbq2)
  refine nk_putF pX7_31 rfl (by intro q hq; cases hq; rfl) dX7_init_40 (nk_u_self _ _ _) rfl rfl (Nat.le_of_ble_eq_true rfl) rfl ?_
  refine nk_J.to ?_ rfl rfl (nk_u_u _ _ _ _)
  refine nk_aload_n (i := 0) dX7_init_43 rfl rfl ?_
  refine nk_new (bc' := 1) (bs' := 16) nX7_35 dX7_init_44 ⟨Nat.le_of_ble_eq_true rfl, Nat.le_of_ble_eq_true rfl⟩ (fun a5 ha5 => ?_)
  have n5 := nk_two ha5
  refine nk_dup dX7_init_47 rfl ?_
  refine nk_cIN (bc' := 0) (bs' := 0) kX7_37 (s_X1_init (nk_u_self _ _ _)) dX7_init_48 rfl rfl (by decide) (Nat.le_of_ble_eq_true rfl) ⟨Nat.le_of_ble_eq_true rfl, Nat.le_of_ble_eq_true rfl⟩ (fun rr H2 hr => ?_)
  obtain ⟨rfl, y5, hy5, rfl⟩ := hr
  have m5 : a5 ≠ y5 := nk_ne (nk_u_self _ _ _) hy5
  rw [nk_u_ne m5.symm] at hy5
  have l5 := nk_two hy5
  refine nk_J.to ?_ rfl rfl (nk_sw3 n5.1 l5.1 m5)
  refine nk_putF pX7_38 rfl (by intro q hq; cases hq; rfl) dX7_init_51 (nk_u_self _ _ _) rfl rfl (Nat.le_of_ble_eq_true rfl) rfl ?_
  refine nk_J.to ?_ rfl rfl (nk_u_u _ _ _ _)
  refine nk_aload_n (i := 0) dX7_init_54 rfl rfl ?_
  refine nk_null dX7_init_55 ?_
  refine nk_putf pX7_42 dX7_init_56 (nk_u_self _ _ _) rfl rfl (Nat.le_of_ble_eq_true rfl) rfl ?_
  refine nk_J.to ?_ rfl rfl (nk_u_u _ _ _ _)
  refine nk_aload_n (i := 0) dX7_init_59 rfl rfl ?_
  refine nk_iconst (v := 0) dX7_init_60 (by decide) ?_
  refine nk_putf pX7_46 dX7_init_61 (nk_u_self _ _ _) rfl rfl (Nat.le_of_ble_eq_true rfl) rfl ?_
  refine nk_J.to ?_ rfl rfl (nk_u_u _ _ _ _)
  refine nk_aload_n (i := 0) dX7_init_64 rfl rfl ?_
  refine nk_iconst (v := 0) dX7_init_65 (by decide) ?_
  refine nk_putf pX7_50 dX7_init_66 (nk_u_self _ _ _) rfl rfl (Nat.le_of_ble_eq_true rfl) rfl ?_
  refine nk_J.to ?_ rfl rfl (nk_u_u _ _ _ _)
  refine nk_vreturn dX7_init_69 rfl ?_
  generalize hH1 : nk_u nk_E a1 (rwc (fun _ => none)) = H1 at *
  have r1 : H1 a1 = some (rwc (fun _ => none)) := by rw [← hH1, nk_u_self]
  generalize hH2 : nk_u H1 y2 (inc 110 (fun _ => 0)) = H2 at *
  have q2 : nk_le H1 H2 := by rw [← hH2]; exact nk_le.new l2.2
  have r2 : H2 y2 = some (inc 110 (fun _ => 0)) := by rw [← hH2, nk_u_self]
  have p2 : H2 a2 = none := by rw [← hH2, nk_u_ne m2]; exact n2.2
  generalize hH3 : nk_u H2 a2 (tpc y2 0 0 0 257 0 0) = H3 at *
  have q3 : nk_le H2 H3 := by rw [← hH3]; exact nk_le.new p2
  have r3 : H3 a2 = some (tpc y2 0 0 0 257 0 0) := by rw [← hH3, nk_u_self]
  generalize hH4 : nk_u H3 a3 (imc (fun _ => none)) = H4 at *
  have q4 : nk_le H3 H4 := by rw [← hH4]; exact nk_le.new n3.2
  have r4 : H4 a3 = some (imc (fun _ => none)) := by rw [← hH4, nk_u_self]
  generalize hH5 : nk_u H4 b1 (chc (fun _ => none)) = H5 at *
  have q5 : nk_le H4 H5 := by rw [← hH5]; exact nk_le.new l4.2
  have r5 : H5 b1 = some (chc (fun _ => none)) := by rw [← hH5, nk_u_self]
  have hbq4 : ∀ i, i ≤ 24 → H5 (bq + i) = none := fun i hi => by rw [← hH5, nk_u_ne (hbb i hi)]; exact hbq3 i hi
  generalize hH6 : mnh H5 bq 24 32 = H6 at *
  have q6 : nk_le H5 H6 := by rw [← hH6]; exact nk_le.mn hbq4
  have r6 : H6 bq = some (bfc (fun i => bq + 1 + i)) := by rw [← hH6]; unfold mnh; rw [if_pos rfl]
  have r7 : ∀ i, i < 24 → H6 (bq + 1 + i) = some (inc 32 (fun _ => 0)) := fun i hi => by rw [← hH6]; unfold mnh; rw [if_neg (by omega), if_pos (by omega)]
  have p6 : H6 a4 = none := by
    rw [← hH6]; unfold mnh
    rw [if_neg (fun e => (hbq2 0 (by omega)).2 (by omega)), if_neg (fun e => (hbq2 (a4 - bq) (by omega)).2 (by omega)), ← hH5, nk_u_ne m4]; exact n4.2
  generalize hH7 : nk_u H6 a4 (acc b1 bq 0 0) = H7 at *
  have q7 : nk_le H6 H7 := by rw [← hH7]; exact nk_le.new p6
  have r8 : H7 a4 = some (acc b1 bq 0 0) := by rw [← hH7, nk_u_self]
  generalize hH8 : nk_u H7 y5 (inc 16 (fun _ => 0)) = H8 at *
  have q8 : nk_le H7 H8 := by rw [← hH8]; exact nk_le.new l5.2
  have r9 : H8 y5 = some (inc 16 (fun _ => 0)) := by rw [← hH8, nk_u_self]
  have p8 : H8 a5 = none := by rw [← hH8, nk_u_ne m5]; exact n5.2
  generalize hH9 : nk_u H8 a5 (akc y5 0) = H9 at *
  have q9 : nk_le H8 H9 := by rw [← hH9]; exact nk_le.new p8
  have r10 : H9 a5 = some (akc y5 0) := by rw [← hH9, nk_u_self]
  have up8 := q9
  have up7 := q8.tr q9
  have up6 := q7.tr up7
  have up5 := q6.tr up6
  have up4 := q5.tr up5
  have up3 := q4.tr up4
  have up2 := q3.tr up3
  have up1 := q2.tr up2
  refine ⟨rfl, g0 (nk_u H9 o (obc (.ref a1) (.ref a2) (.ref a3) (.ref a4) (.ref a5) .null (.int 0) (.int 0))) bq, ?_⟩
  have fin : ∀ {x e}, H9 x = some e → x ≠ o → nk_u H9 o (obc (.ref a1) (.ref a2) (.ref a3) (.ref a4) (.ref a5) .null (.int 0) (.int 0)) x = some e := fun h1 h2 => by rw [nk_u_ne h2]; exact h1
  have t0 : rT _ (g0 (nk_u H9 o (obc (.ref a1) (.ref a2) (.ref a3) (.ref a4) (.ref a5) .null (.int 0) (.int 0))) bq) 0 o _ := g0_at (nk_u_self _ _ _) rfl
  have t1 := g0_at (bq := bq) (t := 1) (fin (up1 _ _ r1) n1.1) (show (if RX4 = RX2 then 6 else if RX4 = RX4 then 1 else 4 : Nat) = 1 by decide)
  have t2 := g0_at (bq := bq) (t := 2) (fin (up3 _ _ r3) n2.1) rfl
  have t3 := g0_at (bq := bq) (t := 3) (fin (up2 _ _ r2) l2.1) rfl
  have t4 := g0_at (bq := bq) (t := 4) (fin (up4 _ _ r4) n3.1) (show (if RX5 = RX2 then 6 else if RX5 = RX4 then 1 else 4 : Nat) = 4 by decide)
  have t5 := g0_at (bq := bq) (t := 5) (fin (up7 _ _ r8) n4.1) rfl
  have t6 := g0_at (bq := bq) (t := 6) (fin (up5 _ _ r5) l4.1) (show (if RX2 = RX2 then 6 else if RX2 = RX4 then 1 else 4 : Nat) = 6 by decide)
  have t7 := g0_at (bq := bq) (t := 7) (fin (up6 _ _ r6) (hbq2 0 (by omega)).1) rfl
  have t8 := g0_at (bq := bq) (t := 8) (fin r10 n5.1) rfl
  have t9 := g0_at (bq := bq) (t := 9) (fin (up8 _ _ r9) l5.1) rfl
  have t30 : ∀ i, i < 24 → rT (nk_u H9 o (obc (.ref a1) (.ref a2) (.ref a3) (.ref a4) (.ref a5) .null (.int 0) (.int 0))) (g0 (nk_u H9 o (obc (.ref a1) (.ref a2) (.ref a3) (.ref a4) (.ref a5) .null (.int 0) (.int 0))) bq) (30 + i) (bq + 1 + i) (inc 32 (fun _ => 0)) := fun i hi => g0_at (fin (up6 _ _ (r7 i hi)) (by have := (hbq2 (1 + i) (by omega)).1; rw [← Nat.add_assoc] at this; exact this)) (by show 30 + (bq + 1 + i - (bq + 1)) = 30 + i; omega)
  refine ⟨⟨fun r hr => by rw [A0_3 r hr]; decide, rfl, by omega, rfl, by omega, rfl, by omega⟩, a1, a2, a3, a4, a5, none, ⟨t0, ⟨_, t1, fun r hr => Or.inl ⟨rfl, by rw [A0_3 r hr]; decide⟩⟩, ⟨y2, _, 0, 0, 257, 0, 0, t2, t3, fun _ _ => rfl⟩, ⟨_, t4, fun k hk => Or.inl ⟨rfl, rfl⟩⟩, ⟨y5, _, t8, t9, fun _ _ => rfl⟩⟩, Or.inl ⟨rfl, rfl, rfl, rfl, rfl, rfl, b1, bq, _, _, 0, t5, t6, t7, by omega, by omega, fun i hi => ⟨_, t30 i hi⟩, fun j hj => by omega⟩⟩

/-! the class: rows made, set, copied, dropped -/
set_option maxRecDepth 20000 in
theorem s_X7_row {G : nk_EG} {K : nk_AH} {g : Nat → Nat} {o m b u l t : Nat} {A : Nat → Nat → Int32} {I : Nat → Int32} (hW : cW K g o A I m b u l t) {r l1 x : Int32} : nk_S G mX7_row 15 2 42 [.ref o, .int r, .int l1, .int x] K (pW o (sp_val (f_row r l1 x) x) (sp_A (f_row r l1 x) A (a_row A (sp_n r) l1 x)) (sp_I (f_row r l1 x) I)) := by
  refine nk_S.of (by decide +kernel) (Nat.le_of_ble_eq_true rfl) rfl ?_
  obtain ⟨hn, a1, a2, a3, a4, a5, sh, hx, hs⟩ := id hW
  by_cases h1 : sp_R r 0 7
  · by_cases h2 : sp_R l1 0 2
    · by_cases h3 : x ≤ 40
      · by_cases h4 : 0 ≤ x
        · have hf : f_row r l1 x = 0 := by unfold f_row; rw [if_pos h1, if_pos h2, if_pos h3, if_pos h4]
          have g3 := (fa_le _ _).mp h3
          have g4 := (fa_le _ _).mp h4
          rw [show (40 : Int32).toInt = 40 from rfl] at g3
          rw [show (0 : Int32).toInt = 0 from rfl] at g4
          obtain ⟨hx4, hxe⟩ : sp_n x ≤ 40 ∧ x = nI (sp_n x) := ⟨by unfold sp_n Int32.toNatClampNeg; omega, nI_ofI g4⟩
          generalize hq5 : sp_n x = n at *
          subst hxe
          obtain ⟨hj, hje⟩ := sp_n_R7 h1
          obtain ⟨z, hz1, hz2⟩ := hx.2.1
          generalize hq6 : sp_n r = j at *
          subst hje
          refine nk_iload_n (i := 1) dX7_row_0 rfl rfl ?_
          refine nk_cSi kX7_53 (s_X7_isRow) dX7_row_1 rfl rfl (by decide) (Nat.le_of_ble_eq_true rfl) ?_
          refine nk_ifeq (tgt := 22) dX7_row_4 (by decide) (fun h4 => by first | exact absurd h4 (nk_y h1) | exact absurd (nk_y h1) h4) (fun _ => ?_)
          refine nk_iload_n (i := 2) dX7_row_7 rfl rfl ?_
          refine nk_iconst (v := 0) dX7_row_8 (by decide) ?_
          refine nk_iconst (v := 2) dX7_row_9 (by decide) ?_
          refine nk_cSi kX7_57 (s_X7_within) dX7_row_10 rfl rfl (by decide) (Nat.le_of_ble_eq_true rfl) ?_
          refine nk_ifeq (tgt := 22) dX7_row_13 (by decide) (fun h13 => by first | exact absurd h13 (nk_y h2) | exact absurd (nk_y h2) h13) (fun _ => ?_)
          refine nk_iload_n (i := 3) dX7_row_16 rfl rfl ?_
          refine nk_bipush (v := 40) dX7_row_17 (by decide) ?_
          refine nk_icmple (tgt := 25) dX7_row_19 (by decide) (fun _ => ?_) (fun h19 => by first | exact absurd (h3) h19 | exact absurd h19 (h3))
          refine nk_iload_n (i := 3) dX7_row_25 rfl rfl ?_
          refine nk_ifge (tgt := 35) dX7_row_26 (by decide) (fun _ => ?_) (fun h26 => by first | exact absurd (h4) h26 | exact absurd h26 (h4))
          refine nk_aload_n (i := 0) dX7_row_35 rfl rfl ?_
          refine nk_getf fX7_11 dX7_row_36 hx.1.1 rfl ?_
          refine nk_iload_n (i := 1) dX7_row_39 rfl rfl ?_
          refine nk_new (bc' := 1) (bs' := 40) nX7_9 dX7_row_40 ⟨Nat.le_of_ble_eq_true rfl, Nat.le_of_ble_eq_true rfl⟩ (fun q1 hq1 => ?_)
          have hqa := hq1
          refine nk_dup dX7_row_43 rfl ?_
          refine nk_iload_n (i := 2) dX7_row_44 rfl rfl ?_
          refine nk_iload_n (i := 3) dX7_row_45 rfl rfl ?_
          refine nk_cI (bc' := 0) (bs' := 0) kX7_66 (s_X4_init (n := n) (l := l1) (nk_u_self _ _ _) hx4) dX7_row_46 rfl rfl (by decide) (Nat.le_of_ble_eq_true rfl) ⟨Nat.le_of_ble_eq_true rfl, by omega⟩ (fun rr H2 hr => ?_)
          obtain ⟨rfl, w1, hw1, rfl⟩ := hr
          have d1 : q1 ≠ w1 := nk_ne (nk_u_self _ _ _) hw1
          rw [nk_u_ne d1.symm] at hw1
          refine nk_J.to ?_ rfl rfl (nk_u_push d1)
          have k1 : rk (fun _ => True) K g (nk_u K w1 (inc n (fun _ => 0))) (va_up g w1 (20 + j)) := rk.new hw1
          have hq3 : nk_u K w1 (inc n (fun _ => 0)) q1 = none := by rw [nk_u_ne d1]; exact hqa
          have k2 : rk (fun _ => True) (nk_u K w1 (inc n (fun _ => 0))) (va_up g w1 (20 + j)) (nk_u (nk_u K w1 (inc n (fun _ => 0))) q1 (roc l1 w1)) (va_up (va_up g w1 (20 + j)) q1 (10 + j)) := rk.new hq3
          have hz3 := (hz1.mv k1 trivial).mv k2 trivial
          have hA := hz3.1
          have k3 : rk (fun y => y ≠ 1) (nk_u (nk_u K w1 (inc n (fun _ => 0))) q1 (roc l1 w1)) (va_up (va_up g w1 (20 + j)) q1 (10 + j)) (nk_u (nk_u (nk_u K w1 (inc n (fun _ => 0))) q1 (roc l1 w1)) a1 (rwc (va_up z j (some q1)))) (va_up (va_up g w1 (20 + j)) q1 (10 + j)) := rk.u hz3.2
          have ho3 := ((hx.1.mv k1 trivial).mv k2 trivial).mv k3 (by omega)
          have hO := ho3.1
          have k4 : ∀ c, rk (fun y => y ≠ 0) (nk_u (nk_u (nk_u K w1 (inc n (fun _ => 0))) q1 (roc l1 w1)) a1 (rwc (va_up z j (some q1)))) (va_up (va_up g w1 (20 + j)) q1 (10 + j)) (nk_u (nk_u (nk_u (nk_u K w1 (inc n (fun _ => 0))) q1 (roc l1 w1)) a1 (rwc (va_up z j (some q1)))) o c) (va_up (va_up g w1 (20 + j)) q1 (10 + j)) := fun c => rk.u ho3.2
          have t1 : rT (nk_u (nk_u K w1 (inc n (fun _ => 0))) q1 (roc l1 w1)) (va_up (va_up g w1 (20 + j)) q1 (10 + j)) (10 + j) q1 (roc l1 w1) := ⟨nk_u_self _ _ _, by simp [va_up]⟩
          have t2 : rT (nk_u (nk_u K w1 (inc n (fun _ => 0))) q1 (roc l1 w1)) (va_up (va_up g w1 (20 + j)) q1 (10 + j)) (20 + j) w1 (inc n (fun _ => 0)) := ⟨by rw [nk_u_ne d1.symm, nk_u_self], by simp [va_up, d1.symm]⟩
          have k34 := fun c => k3.tr (k4 c)
          have k14 := fun c => (k1.tr k2).tr (k34 c)
          refine nk_aastJ (j := j) 3 rfl rfl dX7_row_49 hA (nk_u_self _ _ _) (rfl) (by omega) (by decide) ?_
          refine nk_aload_n (i := 0) dX7_row_50 rfl rfl ?_
          refine nk_iload_n (i := 3) dX7_row_51 rfl rfl ?_
          refine nk_cVi kX7_69 (s_X7_fine hO) dX7_row_52 hO rfl rfl (by decide) (Nat.le_of_ble_eq_true rfl) ?_
          refine nk_ireturn dX7_row_55 rfl ?_
          refine pW.ok hf (cW.rows hn hx hs (k14 _) (fun t z1 z2 z3 => ⟨⟨trivial, trivial⟩, z2, z1⟩) ho3.u (cRw.chg (r := j) ((hz3.u).mv (k4 _) (by omega)) (fun r' _ hr' => by simp [va_up, hr']) hz2 (k14 _) (fun t z1 z2 z3 z4 => ⟨⟨trivial, trivial⟩, by omega, by omega⟩) hj (fun r' h8 hr' => ⟨(upd_ne hr').symm, (upd_ne hr').symm, fun i hi => ?_⟩) (Or.inr ⟨q1, w1, n, fun _ => 0, by simp [va_up], upd_at, hx4, ?_, t2.mv (k34 _) ⟨by omega, by omega⟩, fun i hi => ?_⟩)) rfl rfl rfl rfl rfl rfl rfl (mRw.up hn.1 rfl (by rw [nI_toInt (by omega)]; omega) (by rw [nI_toInt (by omega)]; omega)))
          · show A 4 _ = pf_zf (A 4) (40 * j) 40 _
            unfold pf_zf
            rw [if_neg (by omega)]
          · have t3 := t1.mv (k34 (obc (.ref a1) (.ref a2) (.ref a3) (.ref a4) (.ref a5) (va_rf sh) (.int (I 2)) (.int 0))) ⟨by omega, by omega⟩
            show rT _ _ _ _ (roc (upd (A 2) j l1 j) w1)
            rw [upd_at]; exact t3
          · show (0 : Int32) = pf_zf (A 4) (40 * j) 40 _
            unfold pf_zf
            rw [if_pos (by omega)]
        · have hf : f_row r l1 x = 4 := by unfold f_row; rw [if_pos h1, if_pos h2, if_pos h3, if_neg h4]
          refine nk_iload_n (i := 1) dX7_row_0 rfl rfl ?_
          refine nk_cSi kX7_53 (s_X7_isRow) dX7_row_1 rfl rfl (by decide) (Nat.le_of_ble_eq_true rfl) ?_
          refine nk_ifeq (tgt := 22) dX7_row_4 (by decide) (fun h4 => by first | exact absurd h4 (nk_y h1) | exact absurd (nk_y h1) h4) (fun _ => ?_)
          refine nk_iload_n (i := 2) dX7_row_7 rfl rfl ?_
          refine nk_iconst (v := 0) dX7_row_8 (by decide) ?_
          refine nk_iconst (v := 2) dX7_row_9 (by decide) ?_
          refine nk_cSi kX7_57 (s_X7_within) dX7_row_10 rfl rfl (by decide) (Nat.le_of_ble_eq_true rfl) ?_
          refine nk_ifeq (tgt := 22) dX7_row_13 (by decide) (fun h13 => by first | exact absurd h13 (nk_y h2) | exact absurd (nk_y h2) h13) (fun _ => ?_)
          refine nk_iload_n (i := 3) dX7_row_16 rfl rfl ?_
          refine nk_bipush (v := 40) dX7_row_17 (by decide) ?_
          refine nk_icmple (tgt := 25) dX7_row_19 (by decide) (fun _ => ?_) (fun h19 => by first | exact absurd (h3) h19 | exact absurd h19 (h3))
          refine nk_iload_n (i := 3) dX7_row_25 rfl rfl ?_
          refine nk_ifge (tgt := 35) dX7_row_26 (by decide) (fun h26 => by first | exact absurd h26 (h4) | exact absurd (h4) h26) (fun _ => ?_)
          refine nk_aload_n (i := 0) dX7_row_29 rfl rfl ?_
          refine nk_iconst (v := 4) dX7_row_30 (by decide) ?_
          refine nk_cVi kX7_62 (s_X7_found hx.1.1) dX7_row_31 hx.1.1 rfl rfl (by decide) (Nat.le_of_ble_eq_true rfl) ?_
          refine nk_ireturn dX7_row_34 rfl ?_
          exact pW.fnd 4 (by decide) (by decide) hf hn hx hs
      · have hf : f_row r l1 x = -1 := by unfold f_row; rw [if_pos h1, if_pos h2, if_neg h3]
        refine nk_iload_n (i := 1) dX7_row_0 rfl rfl ?_
        refine nk_cSi kX7_53 (s_X7_isRow) dX7_row_1 rfl rfl (by decide) (Nat.le_of_ble_eq_true rfl) ?_
        refine nk_ifeq (tgt := 22) dX7_row_4 (by decide) (fun h4 => by first | exact absurd h4 (nk_y h1) | exact absurd (nk_y h1) h4) (fun _ => ?_)
        refine nk_iload_n (i := 2) dX7_row_7 rfl rfl ?_
        refine nk_iconst (v := 0) dX7_row_8 (by decide) ?_
        refine nk_iconst (v := 2) dX7_row_9 (by decide) ?_
        refine nk_cSi kX7_57 (s_X7_within) dX7_row_10 rfl rfl (by decide) (Nat.le_of_ble_eq_true rfl) ?_
        refine nk_ifeq (tgt := 22) dX7_row_13 (by decide) (fun h13 => by first | exact absurd h13 (nk_y h2) | exact absurd (nk_y h2) h13) (fun _ => ?_)
        refine nk_iload_n (i := 3) dX7_row_16 rfl rfl ?_
        refine nk_bipush (v := 40) dX7_row_17 (by decide) ?_
        refine nk_icmple (tgt := 25) dX7_row_19 (by decide) (fun h19 => by first | exact absurd h19 (h3) | exact absurd (h3) h19) (fun _ => ?_)
        refine nk_ldc qX7_61 dX7_row_22 ?_
        refine nk_ireturn dX7_row_24 rfl ?_
        exact pW.bad hf hW
    · have hf : f_row r l1 x = -1 := by unfold f_row; rw [if_pos h1, if_neg h2]
      refine nk_iload_n (i := 1) dX7_row_0 rfl rfl ?_
      refine nk_cSi kX7_53 (s_X7_isRow) dX7_row_1 rfl rfl (by decide) (Nat.le_of_ble_eq_true rfl) ?_
      refine nk_ifeq (tgt := 22) dX7_row_4 (by decide) (fun h4 => by first | exact absurd h4 (nk_y h1) | exact absurd (nk_y h1) h4) (fun _ => ?_)
      refine nk_iload_n (i := 2) dX7_row_7 rfl rfl ?_
      refine nk_iconst (v := 0) dX7_row_8 (by decide) ?_
      refine nk_iconst (v := 2) dX7_row_9 (by decide) ?_
      refine nk_cSi kX7_57 (s_X7_within) dX7_row_10 rfl rfl (by decide) (Nat.le_of_ble_eq_true rfl) ?_
      refine nk_ifeq (tgt := 22) dX7_row_13 (by decide) (fun _ => ?_) (fun h13 => by first | exact absurd (nk_n h2) h13 | exact absurd h13 (nk_n h2))
      refine nk_ldc qX7_61 dX7_row_22 ?_
      refine nk_ireturn dX7_row_24 rfl ?_
      exact pW.bad hf hW
  · have hf : f_row r l1 x = -1 := by unfold f_row; rw [if_neg h1]
    refine nk_iload_n (i := 1) dX7_row_0 rfl rfl ?_
    refine nk_cSi kX7_53 (s_X7_isRow) dX7_row_1 rfl rfl (by decide) (Nat.le_of_ble_eq_true rfl) ?_
    refine nk_ifeq (tgt := 22) dX7_row_4 (by decide) (fun _ => ?_) (fun h4 => by first | exact absurd (nk_n h1) h4 | exact absurd h4 (nk_n h1))
    refine nk_ldc qX7_61 dX7_row_22 ?_
    refine nk_ireturn dX7_row_24 rfl ?_
    exact pW.bad hf hW

/-! the class: rows -/
set_option maxRecDepth 20000 in
theorem s_X4_spans {G : nk_EG} {H : nk_AH} {q w n : Nat} {l : Int32} {f : Nat → Int32} (hr : cRo H q w l n f) (hn : n ≤ 40) {x y : Int32} : nk_Si G mX4_spans 1 [.ref q, .int x, .int y] H (if 0 ≤ x ∧ 0 ≤ y ∧ x.toInt + y.toInt ≤ n then 1 else 0) H := by
  refine nk_S.of (by decide +kernel) (Nat.le_of_ble_eq_true rfl) rfl ?_
  have e0 : (0 : Int32).toInt = 0 := rfl
  refine nk_iload_n (i := 1) dX4_spans_0 rfl rfl ?_
  refine nk_iflt (tgt := 23) dX4_spans_1 (by decide) (fun h1 => ?_) (fun h1 => ?_)
  · skip
    refine nk_iconst (v := 0) dX4_spans_23 (by decide) ?_
    refine nk_zreturn dX4_spans_24 rfl rfl ?_
    refine ⟨?_, rfl⟩
    split <;> first | rfl | (exfalso; simp only [fa_lt, fa_le] at *; omega)
  · skip
    refine nk_iload_n (i := 2) dX4_spans_4 rfl rfl ?_
    refine nk_iflt (tgt := 23) dX4_spans_5 (by decide) (fun h5 => ?_) (fun h5 => ?_)
    · skip
      refine nk_iconst (v := 0) dX4_spans_23 (by decide) ?_
      refine nk_zreturn dX4_spans_24 rfl rfl ?_
      refine ⟨?_, rfl⟩
      split <;> first | rfl | (exfalso; simp only [fa_lt, fa_le] at *; omega)
    · skip
      refine nk_iload_n (i := 1) dX4_spans_8 rfl rfl ?_
      refine nk_aload_n (i := 0) dX4_spans_9 rfl rfl ?_
      refine nk_getf fX4_13 dX4_spans_10 hr.1 rfl ?_
      refine nk_alen 0 rfl dX4_spans_13 hr.2 rfl ?_
      have a1 := (fa_le _ _).mp (fa_of_nlt h1)
      have a2 := (fa_le _ _).mp (fa_of_nlt h5)
      have a3 := fb_rng y
      have a4 : (nI n).toInt = (n : Int) := nI_toInt (by omega)
      have e := fb_subI (x := nI n) (y := y) (by omega) (by omega)
      rw [a4] at e
      refine nk_top (y := nI n) (nk_len _) ?_
      refine nk_iload_n (i := 2) dX4_spans_14 rfl rfl ?_
      refine nk_isub dX4_spans_15 ?_
      refine nk_icmpgt (tgt := 23) dX4_spans_16 (by decide) (fun h16 => ?_) (fun h16 => ?_)
      · skip
        refine nk_iconst (v := 0) dX4_spans_23 (by decide) ?_
        refine nk_zreturn dX4_spans_24 rfl rfl ?_
        refine ⟨?_, rfl⟩
        split <;> first | rfl | (exfalso; simp only [fa_lt, fa_le] at *; omega)
      · skip
        refine nk_iconst (v := 1) dX4_spans_19 (by decide) ?_
        refine nk_goto (tgt := 24) dX4_spans_20 (by decide) ?_
        refine nk_zreturn dX4_spans_24 rfl rfl ?_
        refine ⟨?_, rfl⟩
        split <;> first | rfl | (exfalso; simp only [fa_lt, fa_le] at *; omega)
set_option maxRecDepth 20000 in
theorem s_X4_store {G : nk_EG} {H : nk_AH} {q w n : Nat} {l : Int32} {f : Nat → Int32} (hr : cRo H q w l n f) (hn : n ≤ 40) {j : Nat} {v : Int32} (hj : j < n) : nk_Si G mX4_store 1 [.ref q, .int (nI j), .int v] H (pf_nar v l) (nk_u H w (.inl (.int, n, .inl (upd f j (pf_nar v l))))) := by
  refine nk_S.of (by decide +kernel) (Nat.le_of_ble_eq_true rfl) rfl ?_
  refine nk_aload_n (i := 0) dX4_store_0 rfl rfl ?_
  refine nk_getf fX4_7 dX4_store_1 hr.1 rfl ?_
  refine nk_ifne (tgt := 12) dX4_store_4 (by decide) (fun h4 => ?_) (fun h4 => ?_)
  · skip
    refine nk_aload_n (i := 0) dX4_store_12 rfl rfl ?_
    refine nk_getf fX4_7 dX4_store_13 hr.1 rfl ?_
    refine nk_iconst (v := 1) dX4_store_16 (by decide) ?_
    refine nk_icmpne (tgt := 25) dX4_store_17 (by decide) (fun h17 => ?_) (fun h17 => ?_)
    · skip
      refine nk_iload_n (i := 2) dX4_store_25 rfl rfl ?_
      refine nk_istore_nT (i := 3) dX4_store_26 rfl (by decide) ?_
      refine nk_aload_n (i := 0) dX4_store_27 rfl rfl ?_
      refine nk_getf fX4_13 dX4_store_28 hr.1 rfl ?_
      refine nk_iload_n (i := 1) dX4_store_31 rfl rfl ?_
      refine nk_iload_n (i := 3) dX4_store_32 rfl rfl ?_
      refine nk_iastN (j := j) dX4_store_33 hr.2 (rfl) (by omega) (by omega) ?_
      refine nk_iload_n (i := 3) dX4_store_34 rfl rfl ?_
      refine nk_ireturn dX4_store_35 rfl ?_
      first
      | exact ⟨by unfold pf_nar; rw [if_pos h4], by unfold pf_nar; rw [if_pos h4]⟩
      | exact ⟨by unfold pf_nar; rw [if_neg h4, if_pos h17], by unfold pf_nar; rw [if_neg h4, if_pos h17]⟩
      | exact ⟨by unfold pf_nar; rw [if_neg h4, if_neg h17], by unfold pf_nar; rw [if_neg h4, if_neg h17]⟩
      | exact ⟨by unfold pf_nar; rw [if_pos (Classical.not_not.mp h4)], by unfold pf_nar; rw [if_pos (Classical.not_not.mp h4)]⟩
    · skip
      refine nk_iload_n (i := 2) dX4_store_20 rfl rfl ?_
      refine nk_i2s dX4_store_21 ?_
      refine nk_goto (tgt := 26) dX4_store_22 (by decide) ?_
      refine nk_istore_nT (i := 3) dX4_store_26 rfl (by decide) ?_
      refine nk_aload_n (i := 0) dX4_store_27 rfl rfl ?_
      refine nk_getf fX4_13 dX4_store_28 hr.1 rfl ?_
      refine nk_iload_n (i := 1) dX4_store_31 rfl rfl ?_
      refine nk_iload_n (i := 3) dX4_store_32 rfl rfl ?_
      refine nk_iastN (j := j) dX4_store_33 hr.2 (rfl) (by omega) (by omega) ?_
      refine nk_iload_n (i := 3) dX4_store_34 rfl rfl ?_
      refine nk_ireturn dX4_store_35 rfl ?_
      first
      | exact ⟨by unfold pf_nar; rw [if_pos h4], by unfold pf_nar; rw [if_pos h4]⟩
      | exact ⟨by unfold pf_nar; rw [if_neg h4, if_pos h17], by unfold pf_nar; rw [if_neg h4, if_pos h17]⟩
      | exact ⟨by unfold pf_nar; rw [if_neg h4, if_neg h17], by unfold pf_nar; rw [if_neg h4, if_neg h17]⟩
      | exact ⟨by unfold pf_nar; rw [if_pos (Classical.not_not.mp h4)], by unfold pf_nar; rw [if_pos (Classical.not_not.mp h4)]⟩
  · skip
    refine nk_iload_n (i := 2) dX4_store_7 rfl rfl ?_
    refine nk_i2b dX4_store_8 ?_
    refine nk_goto (tgt := 26) dX4_store_9 (by decide) ?_
    refine nk_istore_nT (i := 3) dX4_store_26 rfl (by decide) ?_
    refine nk_aload_n (i := 0) dX4_store_27 rfl rfl ?_
    refine nk_getf fX4_13 dX4_store_28 hr.1 rfl ?_
    refine nk_iload_n (i := 1) dX4_store_31 rfl rfl ?_
    refine nk_iload_n (i := 3) dX4_store_32 rfl rfl ?_
    refine nk_iastN (j := j) dX4_store_33 hr.2 (rfl) (by omega) (by omega) ?_
    refine nk_iload_n (i := 3) dX4_store_34 rfl rfl ?_
    refine nk_ireturn dX4_store_35 rfl ?_
    first
    | exact ⟨by unfold pf_nar; rw [if_pos h4], by unfold pf_nar; rw [if_pos h4]⟩
    | exact ⟨by unfold pf_nar; rw [if_neg h4, if_pos h17], by unfold pf_nar; rw [if_neg h4, if_pos h17]⟩
    | exact ⟨by unfold pf_nar; rw [if_neg h4, if_neg h17], by unfold pf_nar; rw [if_neg h4, if_neg h17]⟩
    | exact ⟨by unfold pf_nar; rw [if_pos (Classical.not_not.mp h4)], by unfold pf_nar; rw [if_pos (Classical.not_not.mp h4)]⟩
set_option maxRecDepth 20000 in
theorem s_X4_init {G : nk_EG} {H : nk_AH} {q n : Nat} {l : Int32} (hq : H q = some (.inr (3, [.int 0, .null]))) (hn : n ≤ 40) : nk_S G mX4_init 1 1 40 [.ref q, .int l, .int (nI n)] H (fun r H' => r = none ∧ ∃ w, H w = none ∧ H' = nk_u (nk_u H w (.inl (.int, n, .inl (fun _ => 0)))) q (.inr (3, [.int l, .ref w]))) := by
  refine nk_S.of (by decide +kernel) (Nat.le_of_ble_eq_true rfl) rfl ?_
  refine nk_aload_n (i := 0) dX4_init_0 rfl rfl ?_
  refine nk_objInit kX4_1 nk_oi1 nk_oi2 dX4_init_1 (by decide) (Nat.le_of_ble_eq_true rfl) ?_
  refine nk_aload_n (i := 0) dX4_init_4 rfl rfl ?_
  refine nk_iload_n (i := 1) dX4_init_5 rfl rfl ?_
  refine nk_putF pX4_7 rfl (by intro q hq; cases hq; rfl) dX4_init_6 hq rfl rfl (Nat.le_of_ble_eq_true rfl) rfl ?_
  refine nk_aload_n (i := 0) dX4_init_9 rfl rfl ?_
  refine nk_iload_n (i := 2) dX4_init_10 rfl rfl ?_
  refine nk_newi (N := n) (bc' := 0) (bs' := 0) nk_ac_int dX4_init_11 (rfl) (by omega) ⟨Nat.le_of_ble_eq_true rfl, by omega⟩ (fun c hc => ?_)
  have hne : q ≠ c := nk_ne (nk_u_self _ _ _) hc
  have hcH : H c = none := by rw [nk_u_ne hne.symm] at hc; exact hc
  refine nk_putF pX4_13 rfl (by intro q hq; cases hq; rfl) dX4_init_13 ((nk_u_ne hne).trans (nk_u_self _ _ _)) rfl rfl (Nat.le_of_ble_eq_true rfl) rfl ?_
  refine nk_J.to ?_ rfl rfl (nk_u_push hne)
  refine nk_vreturn dX4_init_16 rfl ?_
  exact ⟨rfl, c, hcH, rfl⟩

/-! the class: rows copied -/
set_option maxRecDepth 20000 in
theorem s_X7_copy {G : nk_EG} {K : nk_AH} {g : Nat → Nat} {o m b u l t : Nat} {A : Nat → Nat → Int32} {I : Nat → Int32} (hW : cW K g o A I m b u l t) {r i r2 i2 x : Int32} : nk_S G mX7_copy 15 0 0 [.ref o, .int r, .int i, .int r2, .int i2, .int x] K (pW o (sp_val (f_copy A r i r2 i2 x) x) (sp_A (f_copy A r i r2 i2 x) A (a_copy A (sp_n r) (sp_n i) (sp_n r2) (sp_n i2) (sp_n x))) (sp_I (f_copy A r i r2 i2 x) I)) := by
  refine nk_S.of (by decide +kernel) (Nat.le_of_ble_eq_true rfl) rfl ?_
  obtain ⟨hn, a1, a2, a3, a4, a5, sh, hx, hs⟩ := id hW
  by_cases h1 : sp_R r 0 7
  · by_cases h2 : sp_R r2 0 7
    · have hfs : f_copy A r i r2 i2 x = (if 0 ≤ A 3 (sp_n r) then (if 0 ≤ A 3 (sp_n r2) then (if A 2 (sp_n r) = A 2 (sp_n r2) then (if sp_sp A (sp_n r) i x then (if sp_sp A (sp_n r2) i2 x then 0 else 2) else 2) else 5) else 1) else 1) := by unfold f_copy; rw [if_pos h1, if_pos h2]
      obtain ⟨hj, hje⟩ := sp_n_R7 h1
      obtain ⟨z, hz1, hz2⟩ := hx.2.1
      obtain ⟨hj2, hje2⟩ := sp_n_R7 h2
      generalize hq6 : sp_n r = j at *
      generalize hq7 : sp_n r2 = j2 at *
      subst hje
      subst hje2
      rcases hz2 j hj with ⟨e1, e2⟩ | ⟨x0, y0, n, f, e1, e2, e3, e4, e5, e6⟩
      · rw [if_neg e2] at hfs
        rcases hz2 j2 hj2 with ⟨d1, d2⟩ | ⟨x2, y2, n2, f2, d1, d2, d3, d4, d5, d6⟩
        · skip
          refine nk_iload_n (i := 1) dX7_copy_0 rfl rfl ?_
          refine nk_cSi kX7_53 (s_X7_isRow) dX7_copy_1 rfl rfl (by decide) (Nat.le_of_ble_eq_true rfl) ?_
          refine nk_ifeq (tgt := 14) dX7_copy_4 (by decide) (fun h4 => by first | exact absurd h4 (nk_y h1) | exact absurd (nk_y h1) h4) (fun _ => ?_)
          refine nk_iload_n (i := 3) dX7_copy_7 rfl rfl ?_
          refine nk_cSi kX7_53 (s_X7_isRow) dX7_copy_8 rfl rfl (by decide) (Nat.le_of_ble_eq_true rfl) ?_
          refine nk_ifne (tgt := 17) dX7_copy_11 (by decide) (fun _ => ?_) (fun h11 => by first | exact absurd (nk_y h2) h11 | exact absurd h11 (nk_y h2))
          refine nk_aload_n (i := 0) dX7_copy_17 rfl rfl ?_
          refine nk_getf fX7_11 dX7_copy_18 hx.1.1 rfl ?_
          refine nk_iload_n (i := 1) dX7_copy_21 rfl rfl ?_
          refine nk_aaldN (j := j) 3 rfl rfl dX7_copy_22 hz1.1 (rfl) (by omega) (by decide) (show va_rf (z j) = .null by rw [e1]; rfl) ?_
          refine nk_astoreNT dX7_copy_23 (by decide) ?_
          refine nk_aload_n (i := 0) dX7_copy_25 rfl rfl ?_
          refine nk_getf fX7_11 dX7_copy_26 hx.1.1 rfl ?_
          refine nk_iload_n (i := 3) dX7_copy_29 rfl rfl ?_
          refine nk_aaldN (j := j2) 3 rfl rfl dX7_copy_30 hz1.1 (rfl) (by omega) (by decide) (show va_rf (z j2) = .null by rw [d1]; rfl) ?_
          refine nk_astoreNT dX7_copy_31 (by decide) ?_
          refine nk_aloadN dX7_copy_33 rfl ?_
          refine nk_ifnullN (tgt := 43) dX7_copy_35 (by decide) ?_
          refine nk_aload_n (i := 0) dX7_copy_43 rfl rfl ?_
          refine nk_iconst (v := 1) dX7_copy_44 (by decide) ?_
          refine nk_cVi kX7_62 (s_X7_found hx.1.1) dX7_copy_45 hx.1.1 rfl rfl (by decide) (Nat.le_of_ble_eq_true rfl) ?_
          refine nk_ireturn dX7_copy_48 rfl ?_
          exact pW.fnd 1 (by decide) (by decide) hfs hn hx hs
        · skip
          refine nk_iload_n (i := 1) dX7_copy_0 rfl rfl ?_
          refine nk_cSi kX7_53 (s_X7_isRow) dX7_copy_1 rfl rfl (by decide) (Nat.le_of_ble_eq_true rfl) ?_
          refine nk_ifeq (tgt := 14) dX7_copy_4 (by decide) (fun h4 => by first | exact absurd h4 (nk_y h1) | exact absurd (nk_y h1) h4) (fun _ => ?_)
          refine nk_iload_n (i := 3) dX7_copy_7 rfl rfl ?_
          refine nk_cSi kX7_53 (s_X7_isRow) dX7_copy_8 rfl rfl (by decide) (Nat.le_of_ble_eq_true rfl) ?_
          refine nk_ifne (tgt := 17) dX7_copy_11 (by decide) (fun _ => ?_) (fun h11 => by first | exact absurd (nk_y h2) h11 | exact absurd h11 (nk_y h2))
          refine nk_aload_n (i := 0) dX7_copy_17 rfl rfl ?_
          refine nk_getf fX7_11 dX7_copy_18 hx.1.1 rfl ?_
          refine nk_iload_n (i := 1) dX7_copy_21 rfl rfl ?_
          refine nk_aaldN (j := j) 3 rfl rfl dX7_copy_22 hz1.1 (rfl) (by omega) (by decide) (show va_rf (z j) = .null by rw [e1]; rfl) ?_
          refine nk_astoreNT dX7_copy_23 (by decide) ?_
          refine nk_aload_n (i := 0) dX7_copy_25 rfl rfl ?_
          refine nk_getf fX7_11 dX7_copy_26 hx.1.1 rfl ?_
          refine nk_iload_n (i := 3) dX7_copy_29 rfl rfl ?_
          refine nk_aaldN (j := j2) 3 rfl rfl dX7_copy_30 hz1.1 (rfl) (by omega) (by decide) (show va_rf (z j2) = .ref x2 by rw [d1]; rfl) ?_
          refine nk_astoreT dX7_copy_31 (by decide) ?_
          refine nk_aloadN dX7_copy_33 rfl ?_
          refine nk_ifnullN (tgt := 43) dX7_copy_35 (by decide) ?_
          refine nk_aload_n (i := 0) dX7_copy_43 rfl rfl ?_
          refine nk_iconst (v := 1) dX7_copy_44 (by decide) ?_
          refine nk_cVi kX7_62 (s_X7_found hx.1.1) dX7_copy_45 hx.1.1 rfl rfl (by decide) (Nat.le_of_ble_eq_true rfl) ?_
          refine nk_ireturn dX7_copy_48 rfl ?_
          exact pW.fnd 1 (by decide) (by decide) hfs hn hx hs
      · rw [if_pos (by rw [e2]; exact nk_0le e3)] at hfs
        have hr : cRo K x0 y0 (A 2 j) n f := ⟨e4.1, e5.1⟩
        have hnn : (A 3 j).toInt = (n : Int) := by rw [e2]; exact nI_toInt (by omega)
        rcases hz2 j2 hj2 with ⟨d1, d2⟩ | ⟨x2, y2, n2, f2, d1, d2, d3, d4, d5, d6⟩
        · rw [if_neg d2] at hfs
          refine nk_iload_n (i := 1) dX7_copy_0 rfl rfl ?_
          refine nk_cSi kX7_53 (s_X7_isRow) dX7_copy_1 rfl rfl (by decide) (Nat.le_of_ble_eq_true rfl) ?_
          refine nk_ifeq (tgt := 14) dX7_copy_4 (by decide) (fun h4 => by first | exact absurd h4 (nk_y h1) | exact absurd (nk_y h1) h4) (fun _ => ?_)
          refine nk_iload_n (i := 3) dX7_copy_7 rfl rfl ?_
          refine nk_cSi kX7_53 (s_X7_isRow) dX7_copy_8 rfl rfl (by decide) (Nat.le_of_ble_eq_true rfl) ?_
          refine nk_ifne (tgt := 17) dX7_copy_11 (by decide) (fun _ => ?_) (fun h11 => by first | exact absurd (nk_y h2) h11 | exact absurd h11 (nk_y h2))
          refine nk_aload_n (i := 0) dX7_copy_17 rfl rfl ?_
          refine nk_getf fX7_11 dX7_copy_18 hx.1.1 rfl ?_
          refine nk_iload_n (i := 1) dX7_copy_21 rfl rfl ?_
          refine nk_aaldN (j := j) 3 rfl rfl dX7_copy_22 hz1.1 (rfl) (by omega) (by decide) (show va_rf (z j) = .ref x0 by rw [e1]; rfl) ?_
          refine nk_astoreT dX7_copy_23 (by decide) ?_
          refine nk_aload_n (i := 0) dX7_copy_25 rfl rfl ?_
          refine nk_getf fX7_11 dX7_copy_26 hx.1.1 rfl ?_
          refine nk_iload_n (i := 3) dX7_copy_29 rfl rfl ?_
          refine nk_aaldN (j := j2) 3 rfl rfl dX7_copy_30 hz1.1 (rfl) (by omega) (by decide) (show va_rf (z j2) = .null by rw [d1]; rfl) ?_
          refine nk_astoreNT dX7_copy_31 (by decide) ?_
          refine nk_aload dX7_copy_33 rfl ?_
          refine nk_ifnullR dX7_copy_35 ?_
          refine nk_aloadN dX7_copy_38 rfl ?_
          refine nk_ifnonnullN dX7_copy_40 ?_
          refine nk_aload_n (i := 0) dX7_copy_43 rfl rfl ?_
          refine nk_iconst (v := 1) dX7_copy_44 (by decide) ?_
          refine nk_cVi kX7_62 (s_X7_found hx.1.1) dX7_copy_45 hx.1.1 rfl rfl (by decide) (Nat.le_of_ble_eq_true rfl) ?_
          refine nk_ireturn dX7_copy_48 rfl ?_
          exact pW.fnd 1 (by decide) (by decide) hfs hn hx hs
        · rw [if_pos (by rw [d2]; exact nk_0le d3)] at hfs
          have hr2 : cRo K x2 y2 (A 2 j2) n2 f2 := ⟨d4.1, d5.1⟩
          have hnn2 : (A 3 j2).toInt = (n2 : Int) := by rw [d2]; exact nI_toInt (by omega)
          by_cases h3 : A 2 j = A 2 j2
          · rw [if_pos h3] at hfs
            by_cases h4 : sp_sp A j i x
            · rw [if_pos h4] at hfs
              have h4' : (0 : Int32) ≤ i ∧ (0 : Int32) ≤ x ∧ i.toInt + x.toInt ≤ n := by rw [← hnn]; exact h4
              by_cases h5 : sp_sp A j2 i2 x
              · rw [if_pos h5] at hfs
                have h5' : (0 : Int32) ≤ i2 ∧ (0 : Int32) ≤ x ∧ i2.toInt + x.toInt ≤ n2 := by rw [← hnn2]; exact h5
                have g1 := (fa_le _ _).mp h4'.1
                have g2 := (fa_le _ _).mp h4'.2.1
                have g3 := (fa_le _ _).mp h5'.1
                rw [show (0 : Int32).toInt = 0 from rfl] at g1 g2 g3
                have c1 := nI_ofI g1
                have c2 := nI_ofI g2
                have c3 := nI_ofI g3
                have b1 : sp_n i + sp_n x ≤ n := by have := h4'.2.2; unfold sp_n Int32.toNatClampNeg; omega
                have b2 : sp_n i2 + sp_n x ≤ n2 := by have := h5'.2.2; unfold sp_n Int32.toNatClampNeg; omega
                have hoy : o ≠ y2 := nk_cdif hx.1.1 d5.1 (by intro z; cases z)
                have hO : ∀ {c}, nk_u K y2 c o = some (obc (.ref a1) (.ref a2) (.ref a3) (.ref a4) (.ref a5) (va_rf sh) (.int (I 2)) (.int (I 3))) := fun {c} => (nk_u_ne hoy).trans hx.1.1
                refine nk_iload_n (i := 1) dX7_copy_0 rfl rfl ?_
                refine nk_cSi kX7_53 (s_X7_isRow) dX7_copy_1 rfl rfl (by decide) (Nat.le_of_ble_eq_true rfl) ?_
                refine nk_ifeq (tgt := 14) dX7_copy_4 (by decide) (fun h4 => by first | exact absurd h4 (nk_y h1) | exact absurd (nk_y h1) h4) (fun _ => ?_)
                refine nk_iload_n (i := 3) dX7_copy_7 rfl rfl ?_
                refine nk_cSi kX7_53 (s_X7_isRow) dX7_copy_8 rfl rfl (by decide) (Nat.le_of_ble_eq_true rfl) ?_
                refine nk_ifne (tgt := 17) dX7_copy_11 (by decide) (fun _ => ?_) (fun h11 => by first | exact absurd (nk_y h2) h11 | exact absurd h11 (nk_y h2))
                refine nk_aload_n (i := 0) dX7_copy_17 rfl rfl ?_
                refine nk_getf fX7_11 dX7_copy_18 hx.1.1 rfl ?_
                refine nk_iload_n (i := 1) dX7_copy_21 rfl rfl ?_
                refine nk_aaldN (j := j) 3 rfl rfl dX7_copy_22 hz1.1 (rfl) (by omega) (by decide) (show va_rf (z j) = .ref x0 by rw [e1]; rfl) ?_
                refine nk_astoreT dX7_copy_23 (by decide) ?_
                refine nk_aload_n (i := 0) dX7_copy_25 rfl rfl ?_
                refine nk_getf fX7_11 dX7_copy_26 hx.1.1 rfl ?_
                refine nk_iload_n (i := 3) dX7_copy_29 rfl rfl ?_
                refine nk_aaldN (j := j2) 3 rfl rfl dX7_copy_30 hz1.1 (rfl) (by omega) (by decide) (show va_rf (z j2) = .ref x2 by rw [d1]; rfl) ?_
                refine nk_astoreT dX7_copy_31 (by decide) ?_
                refine nk_aload dX7_copy_33 rfl ?_
                refine nk_ifnullR dX7_copy_35 ?_
                refine nk_aload dX7_copy_38 rfl ?_
                refine nk_ifnonnullR (tgt := 49) dX7_copy_40 (by decide) ?_
                refine nk_aload dX7_copy_49 rfl ?_
                refine nk_getf fX7_80 dX7_copy_51 hr.1 rfl ?_
                refine nk_aload dX7_copy_54 rfl ?_
                refine nk_getf fX7_80 dX7_copy_56 hr2.1 rfl ?_
                refine nk_icmpeq (tgt := 68) dX7_copy_59 (by decide) (fun _ => ?_) (fun h59 => by first | exact absurd (h3) h59 | exact absurd h59 (h3))
                refine nk_aload dX7_copy_68 rfl ?_
                refine nk_iload_n (i := 2) dX7_copy_70 rfl rfl ?_
                refine nk_iload dX7_copy_71 rfl ?_
                refine nk_cVi kX7_72 (s_X4_spans hr e3) dX7_copy_73 hr.1 rfl rfl (by decide) (Nat.le_of_ble_eq_true rfl) ?_
                refine nk_ifeq (tgt := 91) dX7_copy_76 (by decide) (fun h76 => by first | exact absurd h76 (nk_y h4') | exact absurd (nk_y h4') h76) (fun _ => ?_)
                refine nk_aload dX7_copy_79 rfl ?_
                refine nk_iload dX7_copy_81 rfl ?_
                refine nk_iload dX7_copy_83 rfl ?_
                refine nk_cVi kX7_72 (s_X4_spans hr2 d3) dX7_copy_85 hr2.1 rfl rfl (by decide) (Nat.le_of_ble_eq_true rfl) ?_
                refine nk_ifne (tgt := 97) dX7_copy_88 (by decide) (fun _ => ?_) (fun h88 => by first | exact absurd (nk_y h5') h88 | exact absurd h88 (nk_y h5'))
                refine nk_aload dX7_copy_97 rfl ?_
                refine nk_getf fX7_83 dX7_copy_99 hr.1 rfl ?_
                refine nk_iload_n (i := 2) dX7_copy_102 rfl rfl ?_
                refine nk_aload dX7_copy_103 rfl ?_
                refine nk_getf fX7_83 dX7_copy_105 hr2.1 rfl ?_
                refine nk_iload dX7_copy_108 rfl ?_
                refine nk_iload dX7_copy_110 rfl ?_
                refine nk_copy kX7_87 nk_cp1 nk_cp2 nk_cp3 dX7_copy_112 hr.2 hr2.2 (Int32.not_lt.mpr h4'.1) (Int32.not_lt.mpr h5'.1) (Int32.not_lt.mpr h4'.2.1) b1 b2 (by decide) (Nat.le_of_ble_eq_true rfl) ?_
                refine nk_aload_n (i := 0) dX7_copy_115 rfl rfl ?_
                refine nk_iload dX7_copy_116 rfl ?_
                refine nk_cVi kX7_69 (s_X7_fine hO) dX7_copy_118 hO rfl rfl (by decide) (Nat.le_of_ble_eq_true rfl) ?_
                refine nk_ireturn dX7_copy_121 rfl ?_
                refine pW.ok hfs (cW.items (A' := a_copy A j (sp_n i) j2 (sp_n i2) (sp_n x)) (I' := va_up I 3 0) hn hx hs hz1 hz2 hj2 d1 d2 d3 d4 d5 (fun i' hi' => ?_) (fun r' hr' hne i' hi' => ?_) rfl rfl rfl rfl rfl rfl rfl rfl rfl rfl)
                · show va_cpy f f2 (sp_n i) (sp_n i2) (sp_n x) i' = va_cpy (A 4) (A 4) (40 * j + sp_n i) (40 * j2 + sp_n i2) (sp_n x) (40 * j2 + i')
                  unfold va_cpy
                  by_cases q : sp_n i2 ≤ i' ∧ i' < sp_n i2 + sp_n x
                  · rw [if_pos q, if_pos (by omega), e6 _ (by omega)]
                    exact congrArg (A 4) (by omega)
                  · rw [if_neg q, if_neg (by omega)]; exact d6 i' hi'
                · show A 4 _ = va_cpy (A 4) (A 4) (40 * j + sp_n i) (40 * j2 + sp_n i2) (sp_n x) _
                  rw [va_cpy_out (by omega)]
              · rw [if_neg h5] at hfs
                have h5' : ¬ ((0 : Int32) ≤ i2 ∧ (0 : Int32) ≤ x ∧ i2.toInt + x.toInt ≤ n2) := by rw [← hnn2]; exact h5
                refine nk_iload_n (i := 1) dX7_copy_0 rfl rfl ?_
                refine nk_cSi kX7_53 (s_X7_isRow) dX7_copy_1 rfl rfl (by decide) (Nat.le_of_ble_eq_true rfl) ?_
                refine nk_ifeq (tgt := 14) dX7_copy_4 (by decide) (fun h4 => by first | exact absurd h4 (nk_y h1) | exact absurd (nk_y h1) h4) (fun _ => ?_)
                refine nk_iload_n (i := 3) dX7_copy_7 rfl rfl ?_
                refine nk_cSi kX7_53 (s_X7_isRow) dX7_copy_8 rfl rfl (by decide) (Nat.le_of_ble_eq_true rfl) ?_
                refine nk_ifne (tgt := 17) dX7_copy_11 (by decide) (fun _ => ?_) (fun h11 => by first | exact absurd (nk_y h2) h11 | exact absurd h11 (nk_y h2))
                refine nk_aload_n (i := 0) dX7_copy_17 rfl rfl ?_
                refine nk_getf fX7_11 dX7_copy_18 hx.1.1 rfl ?_
                refine nk_iload_n (i := 1) dX7_copy_21 rfl rfl ?_
                refine nk_aaldN (j := j) 3 rfl rfl dX7_copy_22 hz1.1 (rfl) (by omega) (by decide) (show va_rf (z j) = .ref x0 by rw [e1]; rfl) ?_
                refine nk_astoreT dX7_copy_23 (by decide) ?_
                refine nk_aload_n (i := 0) dX7_copy_25 rfl rfl ?_
                refine nk_getf fX7_11 dX7_copy_26 hx.1.1 rfl ?_
                refine nk_iload_n (i := 3) dX7_copy_29 rfl rfl ?_
                refine nk_aaldN (j := j2) 3 rfl rfl dX7_copy_30 hz1.1 (rfl) (by omega) (by decide) (show va_rf (z j2) = .ref x2 by rw [d1]; rfl) ?_
                refine nk_astoreT dX7_copy_31 (by decide) ?_
                refine nk_aload dX7_copy_33 rfl ?_
                refine nk_ifnullR dX7_copy_35 ?_
                refine nk_aload dX7_copy_38 rfl ?_
                refine nk_ifnonnullR (tgt := 49) dX7_copy_40 (by decide) ?_
                refine nk_aload dX7_copy_49 rfl ?_
                refine nk_getf fX7_80 dX7_copy_51 hr.1 rfl ?_
                refine nk_aload dX7_copy_54 rfl ?_
                refine nk_getf fX7_80 dX7_copy_56 hr2.1 rfl ?_
                refine nk_icmpeq (tgt := 68) dX7_copy_59 (by decide) (fun _ => ?_) (fun h59 => by first | exact absurd (h3) h59 | exact absurd h59 (h3))
                refine nk_aload dX7_copy_68 rfl ?_
                refine nk_iload_n (i := 2) dX7_copy_70 rfl rfl ?_
                refine nk_iload dX7_copy_71 rfl ?_
                refine nk_cVi kX7_72 (s_X4_spans hr e3) dX7_copy_73 hr.1 rfl rfl (by decide) (Nat.le_of_ble_eq_true rfl) ?_
                refine nk_ifeq (tgt := 91) dX7_copy_76 (by decide) (fun h76 => by first | exact absurd h76 (nk_y h4') | exact absurd (nk_y h4') h76) (fun _ => ?_)
                refine nk_aload dX7_copy_79 rfl ?_
                refine nk_iload dX7_copy_81 rfl ?_
                refine nk_iload dX7_copy_83 rfl ?_
                refine nk_cVi kX7_72 (s_X4_spans hr2 d3) dX7_copy_85 hr2.1 rfl rfl (by decide) (Nat.le_of_ble_eq_true rfl) ?_
                refine nk_ifne (tgt := 97) dX7_copy_88 (by decide) (fun h88 => by first | exact absurd h88 ((fun z => z (nk_n h5'))) | exact absurd ((fun z => z (nk_n h5'))) h88) (fun _ => ?_)
                refine nk_aload_n (i := 0) dX7_copy_91 rfl rfl ?_
                refine nk_iconst (v := 2) dX7_copy_92 (by decide) ?_
                refine nk_cVi kX7_62 (s_X7_found hx.1.1) dX7_copy_93 hx.1.1 rfl rfl (by decide) (Nat.le_of_ble_eq_true rfl) ?_
                refine nk_ireturn dX7_copy_96 rfl ?_
                exact pW.fnd 2 (by decide) (by decide) hfs hn hx hs
            · rw [if_neg h4] at hfs
              have h4' : ¬ ((0 : Int32) ≤ i ∧ (0 : Int32) ≤ x ∧ i.toInt + x.toInt ≤ n) := by rw [← hnn]; exact h4
              refine nk_iload_n (i := 1) dX7_copy_0 rfl rfl ?_
              refine nk_cSi kX7_53 (s_X7_isRow) dX7_copy_1 rfl rfl (by decide) (Nat.le_of_ble_eq_true rfl) ?_
              refine nk_ifeq (tgt := 14) dX7_copy_4 (by decide) (fun h4 => by first | exact absurd h4 (nk_y h1) | exact absurd (nk_y h1) h4) (fun _ => ?_)
              refine nk_iload_n (i := 3) dX7_copy_7 rfl rfl ?_
              refine nk_cSi kX7_53 (s_X7_isRow) dX7_copy_8 rfl rfl (by decide) (Nat.le_of_ble_eq_true rfl) ?_
              refine nk_ifne (tgt := 17) dX7_copy_11 (by decide) (fun _ => ?_) (fun h11 => by first | exact absurd (nk_y h2) h11 | exact absurd h11 (nk_y h2))
              refine nk_aload_n (i := 0) dX7_copy_17 rfl rfl ?_
              refine nk_getf fX7_11 dX7_copy_18 hx.1.1 rfl ?_
              refine nk_iload_n (i := 1) dX7_copy_21 rfl rfl ?_
              refine nk_aaldN (j := j) 3 rfl rfl dX7_copy_22 hz1.1 (rfl) (by omega) (by decide) (show va_rf (z j) = .ref x0 by rw [e1]; rfl) ?_
              refine nk_astoreT dX7_copy_23 (by decide) ?_
              refine nk_aload_n (i := 0) dX7_copy_25 rfl rfl ?_
              refine nk_getf fX7_11 dX7_copy_26 hx.1.1 rfl ?_
              refine nk_iload_n (i := 3) dX7_copy_29 rfl rfl ?_
              refine nk_aaldN (j := j2) 3 rfl rfl dX7_copy_30 hz1.1 (rfl) (by omega) (by decide) (show va_rf (z j2) = .ref x2 by rw [d1]; rfl) ?_
              refine nk_astoreT dX7_copy_31 (by decide) ?_
              refine nk_aload dX7_copy_33 rfl ?_
              refine nk_ifnullR dX7_copy_35 ?_
              refine nk_aload dX7_copy_38 rfl ?_
              refine nk_ifnonnullR (tgt := 49) dX7_copy_40 (by decide) ?_
              refine nk_aload dX7_copy_49 rfl ?_
              refine nk_getf fX7_80 dX7_copy_51 hr.1 rfl ?_
              refine nk_aload dX7_copy_54 rfl ?_
              refine nk_getf fX7_80 dX7_copy_56 hr2.1 rfl ?_
              refine nk_icmpeq (tgt := 68) dX7_copy_59 (by decide) (fun _ => ?_) (fun h59 => by first | exact absurd (h3) h59 | exact absurd h59 (h3))
              refine nk_aload dX7_copy_68 rfl ?_
              refine nk_iload_n (i := 2) dX7_copy_70 rfl rfl ?_
              refine nk_iload dX7_copy_71 rfl ?_
              refine nk_cVi kX7_72 (s_X4_spans hr e3) dX7_copy_73 hr.1 rfl rfl (by decide) (Nat.le_of_ble_eq_true rfl) ?_
              refine nk_ifeq (tgt := 91) dX7_copy_76 (by decide) (fun _ => ?_) (fun h76 => by first | exact absurd (nk_n h4') h76 | exact absurd h76 (nk_n h4'))
              refine nk_aload_n (i := 0) dX7_copy_91 rfl rfl ?_
              refine nk_iconst (v := 2) dX7_copy_92 (by decide) ?_
              refine nk_cVi kX7_62 (s_X7_found hx.1.1) dX7_copy_93 hx.1.1 rfl rfl (by decide) (Nat.le_of_ble_eq_true rfl) ?_
              refine nk_ireturn dX7_copy_96 rfl ?_
              exact pW.fnd 2 (by decide) (by decide) hfs hn hx hs
          · rw [if_neg h3] at hfs
            refine nk_iload_n (i := 1) dX7_copy_0 rfl rfl ?_
            refine nk_cSi kX7_53 (s_X7_isRow) dX7_copy_1 rfl rfl (by decide) (Nat.le_of_ble_eq_true rfl) ?_
            refine nk_ifeq (tgt := 14) dX7_copy_4 (by decide) (fun h4 => by first | exact absurd h4 (nk_y h1) | exact absurd (nk_y h1) h4) (fun _ => ?_)
            refine nk_iload_n (i := 3) dX7_copy_7 rfl rfl ?_
            refine nk_cSi kX7_53 (s_X7_isRow) dX7_copy_8 rfl rfl (by decide) (Nat.le_of_ble_eq_true rfl) ?_
            refine nk_ifne (tgt := 17) dX7_copy_11 (by decide) (fun _ => ?_) (fun h11 => by first | exact absurd (nk_y h2) h11 | exact absurd h11 (nk_y h2))
            refine nk_aload_n (i := 0) dX7_copy_17 rfl rfl ?_
            refine nk_getf fX7_11 dX7_copy_18 hx.1.1 rfl ?_
            refine nk_iload_n (i := 1) dX7_copy_21 rfl rfl ?_
            refine nk_aaldN (j := j) 3 rfl rfl dX7_copy_22 hz1.1 (rfl) (by omega) (by decide) (show va_rf (z j) = .ref x0 by rw [e1]; rfl) ?_
            refine nk_astoreT dX7_copy_23 (by decide) ?_
            refine nk_aload_n (i := 0) dX7_copy_25 rfl rfl ?_
            refine nk_getf fX7_11 dX7_copy_26 hx.1.1 rfl ?_
            refine nk_iload_n (i := 3) dX7_copy_29 rfl rfl ?_
            refine nk_aaldN (j := j2) 3 rfl rfl dX7_copy_30 hz1.1 (rfl) (by omega) (by decide) (show va_rf (z j2) = .ref x2 by rw [d1]; rfl) ?_
            refine nk_astoreT dX7_copy_31 (by decide) ?_
            refine nk_aload dX7_copy_33 rfl ?_
            refine nk_ifnullR dX7_copy_35 ?_
            refine nk_aload dX7_copy_38 rfl ?_
            refine nk_ifnonnullR (tgt := 49) dX7_copy_40 (by decide) ?_
            refine nk_aload dX7_copy_49 rfl ?_
            refine nk_getf fX7_80 dX7_copy_51 hr.1 rfl ?_
            refine nk_aload dX7_copy_54 rfl ?_
            refine nk_getf fX7_80 dX7_copy_56 hr2.1 rfl ?_
            refine nk_icmpeq (tgt := 68) dX7_copy_59 (by decide) (fun h59 => by first | exact absurd h59 (h3) | exact absurd (h3) h59) (fun _ => ?_)
            refine nk_aload_n (i := 0) dX7_copy_62 rfl rfl ?_
            refine nk_iconst (v := 5) dX7_copy_63 (by decide) ?_
            refine nk_cVi kX7_62 (s_X7_found hx.1.1) dX7_copy_64 hx.1.1 rfl rfl (by decide) (Nat.le_of_ble_eq_true rfl) ?_
            refine nk_ireturn dX7_copy_67 rfl ?_
            exact pW.fnd 5 (by decide) (by decide) hfs hn hx hs
    · have hf : f_copy A r i r2 i2 x = -1 := by unfold f_copy; rw [if_pos h1, if_neg h2]
      refine nk_iload_n (i := 1) dX7_copy_0 rfl rfl ?_
      refine nk_cSi kX7_53 (s_X7_isRow) dX7_copy_1 rfl rfl (by decide) (Nat.le_of_ble_eq_true rfl) ?_
      refine nk_ifeq (tgt := 14) dX7_copy_4 (by decide) (fun h4 => by first | exact absurd h4 (nk_y h1) | exact absurd (nk_y h1) h4) (fun _ => ?_)
      refine nk_iload_n (i := 3) dX7_copy_7 rfl rfl ?_
      refine nk_cSi kX7_53 (s_X7_isRow) dX7_copy_8 rfl rfl (by decide) (Nat.le_of_ble_eq_true rfl) ?_
      refine nk_ifne (tgt := 17) dX7_copy_11 (by decide) (fun h11 => by first | exact absurd h11 ((fun z => z (nk_n h2))) | exact absurd ((fun z => z (nk_n h2))) h11) (fun _ => ?_)
      refine nk_ldc qX7_61 dX7_copy_14 ?_
      refine nk_ireturn dX7_copy_16 rfl ?_
      exact pW.bad hf hW
  · have hf : f_copy A r i r2 i2 x = -1 := by unfold f_copy; rw [if_neg h1]
    refine nk_iload_n (i := 1) dX7_copy_0 rfl rfl ?_
    refine nk_cSi kX7_53 (s_X7_isRow) dX7_copy_1 rfl rfl (by decide) (Nat.le_of_ble_eq_true rfl) ?_
    refine nk_ifeq (tgt := 14) dX7_copy_4 (by decide) (fun _ => ?_) (fun h4 => by first | exact absurd (nk_n h1) h4 | exact absurd h4 (nk_n h1))
    refine nk_ldc qX7_61 dX7_copy_14 ?_
    refine nk_ireturn dX7_copy_16 rfl ?_
    exact pW.bad hf hW

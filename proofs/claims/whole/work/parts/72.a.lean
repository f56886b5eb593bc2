/-! the law: its loop -/
theorem lw_cmp {i L : Nat} (hL : L ≤ 3072) (hi : i ≤ 4000) : (nI L - 6 < nI i) ↔ ¬ i + 6 ≤ L := by
  have e1 : (nI i).toInt = (i : Int) := nI_toInt (by omega)
  have e2 : (nI L).toInt = (L : Int) := nI_toInt (by omega)
  have e3 : (nI L - 6).toInt = (L : Int) - 6 := by
    rw [fb_subI (by rw [e2, show (6 : Int32).toInt = 6 from rfl]; omega) (by rw [e2, show (6 : Int32).toInt = 6 from rfl]; omega), e2]; rfl
  rw [fa_lt, e1, e3]; omega
theorem lw_i6 (i : Nat) : nI i + Int32.ofInt 6 = nI (i + 6) := nI_add i 6
set_option maxRecDepth 20000 in
theorem l_law {nm : String} {G : nk_EG} (hG : nk_GS G) {s0 L : Nat} {xs : Nat → Int32} (hsc : G.2.2.1 s0 = some (L, xs)) (hL : L ≤ 3072) : ∀ (n i : Nat) (ad : Nat → Nat) (K : nk_AH) (g : Nat → Nat) (o m b u l t : Nat) (A : Nat → Nat → Int32) (I : Nat → Int32) (hiL : i ≤ L) (hn : L < i + 6 * (n + 1)) (hi : mInj ad) (hd : nk_dj K (mh ad A I)) (hW : cW K g o A I m b u l t), nk_J G (mL nm) 20 (fun r _ => r = some (.int 1)) (14 * n) (240 * n) 18 [some (.ref s0), some (.ref o), some (.ref (ad 0)), some (.int (nI i))] [] (nk_o K (mh ad A I)) := by
  intro n
  induction n with
  | zero =>
    intro i ad K g o m b u l t A I hiL hn hi hd hW
    have hx := (lw_cmp (i := i) hL (by omega)).mpr (by omega)
    refine nk_iload_n (i := 3) dL_law_18 rfl rfl ?_
    refine nk_aload_n (i := 0) dL_law_19 rfl rfl ?_
    refine nk_tlen dL_law_20 hsc rfl ?_
    refine nk_bipush (v := 6) dL_law_21 (by decide) ?_
    refine nk_isub dL_law_23 ?_
    refine nk_icmpgt (tgt := 1753) dL_law_24 (by decide) (fun _ => ?_) (fun h24 => by first | exact absurd (hx) h24 | exact absurd h24 (hx))
    refine nk_iconst (v := 1) dL_law_1753 (by decide) ?_
    refine nk_zreturn dL_law_1754 rfl rfl ?_
    exact rfl
  | succ n ih =>
    intro i ad K g o m b u l t A I hiL hn hi hd hW
    by_cases hc : i + 6 ≤ L
    · have hx : ¬ nI L - 6 < nI i := fun z => (lw_cmp (i := i) hL (by omega)).mp z hc
      have kk : ∀ (K2 : nk_AH) (g2 : Nat → Nat) (A2 : Nat → Nat → Int32) (I2 : Nat → Int32) (m2 b2 u2 l2 t2 : Nat), nk_dj K2 (mh ad A2 I2) → cW K2 g2 o A2 I2 m2 b2 u2 l2 t2 → nk_J G (mL nm) 20 (fun r _ => r = some (.int 1)) (14 * n) (240 * n) 1747 [some (.ref s0), some (.ref o), some (.ref (ad 0)), some (.int (nI i))] [] (nk_o K2 (mh ad A2 I2)) := fun K2 g2 A2 I2 m2 b2 u2 l2 t2 hd2 hW2 => by
        refine nk_iincT dL_law_1747 rfl (lw_i6 i) (Nat.le_of_ble_eq_true rfl) ?_
        refine nk_goto (tgt := 18) dL_law_1750 (by decide) ?_
        exact ih (i + 6) ad K2 g2 o m2 b2 u2 l2 t2 A2 I2 (by omega) (by omega) hi hd2 hW2
      refine nk_J.less (bc' := 14 * n + 14) (bs' := 240 * n + 240) (by omega) (by omega) ?_
      refine nk_iload_n (i := 3) dL_law_18 rfl rfl ?_
      refine nk_aload_n (i := 0) dL_law_19 rfl rfl ?_
      refine nk_tlen dL_law_20 hsc rfl ?_
      refine nk_bipush (v := 6) dL_law_21 (by decide) ?_
      refine nk_isub dL_law_23 ?_
      refine nk_icmpgt (tgt := 1753) dL_law_24 (by decide) (fun h24 => by first | exact absurd h24 (hx) | exact absurd (hx) h24) (fun _ => ?_)
      refine nk_aload_n (i := 0) dL_law_27 rfl rfl ?_
      refine nk_iload_n (i := 3) dL_law_28 rfl rfl ?_
      refine nk_tldN (j := i) dL_law_29 hsc (rfl) (by omega) (by omega) ?_
      refine nk_bipush (v := 63) dL_law_30 (by decide) ?_
      refine nk_iand dL_law_32 ?_
      by_cases c33_0 : (xs i &&& 63) = 0
      · skip
        refine nk_top (y := 0) c33_0 ?_
        refine nk_tableIn (tgt := 224) (off := 191) dL_law_33 (by decide) (by decide) (by decide) (by decide) ?_
        exact lo_0 hG hsc hL hc hi hd hW kk
      by_cases c33_1 : (xs i &&& 63) = 1
      · skip
        refine nk_top (y := 1) c33_1 ?_
        refine nk_tableIn (tgt := 267) (off := 234) dL_law_33 (by decide) (by decide) (by decide) (by decide) ?_
        exact lo_1 hG hsc hL hc hi hd hW kk
      by_cases c33_2 : (xs i &&& 63) = 2
      · skip
        refine nk_top (y := 2) c33_2 ?_
        refine nk_tableIn (tgt := 310) (off := 277) dL_law_33 (by decide) (by decide) (by decide) (by decide) ?_
        exact lo_2 hG hsc hL hc hi hd hW kk
      by_cases c33_3 : (xs i &&& 63) = 3
      · skip
        refine nk_top (y := 3) c33_3 ?_
        refine nk_tableIn (tgt := 373) (off := 340) dL_law_33 (by decide) (by decide) (by decide) (by decide) ?_
        exact lo_3 hG hsc hL hc hi hd hW kk
      by_cases c33_4 : (xs i &&& 63) = 4
      · skip
        refine nk_top (y := 4) c33_4 ?_
        refine nk_tableIn (tgt := 396) (off := 363) dL_law_33 (by decide) (by decide) (by decide) (by decide) ?_
        exact lo_4 hG hsc hL hc hi hd hW kk
      by_cases c33_5 : (xs i &&& 63) = 5
      · skip
        refine nk_top (y := 5) c33_5 ?_
        refine nk_tableIn (tgt := 419) (off := 386) dL_law_33 (by decide) (by decide) (by decide) (by decide) ?_
        exact lo_5 hG hsc hL hc hi hd hW kk
      by_cases c33_6 : (xs i &&& 63) = 6
      · skip
        refine nk_top (y := 6) c33_6 ?_
        refine nk_tableIn (tgt := 432) (off := 399) dL_law_33 (by decide) (by decide) (by decide) (by decide) ?_
        exact lo_6 hG hsc hL hc hi hd hW kk
      by_cases c33_7 : (xs i &&& 63) = 7
      · skip
        refine nk_top (y := 7) c33_7 ?_
        refine nk_tableIn (tgt := 445) (off := 412) dL_law_33 (by decide) (by decide) (by decide) (by decide) ?_
        exact lo_7 hG hsc hL hc hi hd hW kk
      by_cases c33_8 : (xs i &&& 63) = 8
      · skip
        refine nk_top (y := 8) c33_8 ?_
        refine nk_tableIn (tgt := 458) (off := 425) dL_law_33 (by decide) (by decide) (by decide) (by decide) ?_
        exact lo_8 hG hsc hL hc hi hd hW kk
      by_cases c33_9 : (xs i &&& 63) = 9
      · skip
        refine nk_top (y := 9) c33_9 ?_
        refine nk_tableIn (tgt := 491) (off := 458) dL_law_33 (by decide) (by decide) (by decide) (by decide) ?_
        exact lo_9 hG hsc hL hc hi hd hW kk
      by_cases c33_10 : (xs i &&& 63) = 10
      · skip
        refine nk_top (y := 10) c33_10 ?_
        refine nk_tableIn (tgt := 524) (off := 491) dL_law_33 (by decide) (by decide) (by decide) (by decide) ?_
        exact lo_10 hG hsc hL hc hi hd hW kk
      by_cases c33_11 : (xs i &&& 63) = 11
      · skip
        refine nk_top (y := 11) c33_11 ?_
        refine nk_tableIn (tgt := 567) (off := 534) dL_law_33 (by decide) (by decide) (by decide) (by decide) ?_
        exact lo_11 hG hsc hL hc hi hd hW kk
      by_cases c33_12 : (xs i &&& 63) = 12
      · skip
        refine nk_top (y := 12) c33_12 ?_
        refine nk_tableIn (tgt := 620) (off := 587) dL_law_33 (by decide) (by decide) (by decide) (by decide) ?_
        exact lo_12 hG hsc hL hc hi hd hW kk
      by_cases c33_13 : (xs i &&& 63) = 13
      · skip
        refine nk_top (y := 13) c33_13 ?_
        refine nk_tableIn (tgt := 653) (off := 620) dL_law_33 (by decide) (by decide) (by decide) (by decide) ?_
        exact lo_13 hG hsc hL hc hi hd hW kk
      by_cases c33_14 : (xs i &&& 63) = 14
      · skip
        refine nk_top (y := 14) c33_14 ?_
        refine nk_tableIn (tgt := 706) (off := 673) dL_law_33 (by decide) (by decide) (by decide) (by decide) ?_
        exact lo_14 hG hsc hL hc hi hd hW kk
      by_cases c33_15 : (xs i &&& 63) = 15
      · skip
        refine nk_top (y := 15) c33_15 ?_
        refine nk_tableIn (tgt := 739) (off := 706) dL_law_33 (by decide) (by decide) (by decide) (by decide) ?_
        exact lo_15 hG hsc hL hc hi hd hW kk
      by_cases c33_16 : (xs i &&& 63) = 16
      · skip
        refine nk_top (y := 16) c33_16 ?_
        refine nk_tableIn (tgt := 762) (off := 729) dL_law_33 (by decide) (by decide) (by decide) (by decide) ?_
        exact lo_16 hG hsc hL hc hi hd hW kk
      by_cases c33_17 : (xs i &&& 63) = 17
      · skip
        refine nk_top (y := 17) c33_17 ?_
        refine nk_tableIn (tgt := 795) (off := 762) dL_law_33 (by decide) (by decide) (by decide) (by decide) ?_
        exact lo_17 hG hsc hL hc hi hd hW kk
      by_cases c33_18 : (xs i &&& 63) = 18
      · skip
        refine nk_top (y := 18) c33_18 ?_
        refine nk_tableIn (tgt := 828) (off := 795) dL_law_33 (by decide) (by decide) (by decide) (by decide) ?_
        exact lo_18 hG hsc hL hc hi hd hW kk
      by_cases c33_19 : (xs i &&& 63) = 19
      · skip
        refine nk_top (y := 19) c33_19 ?_
        refine nk_tableIn (tgt := 871) (off := 838) dL_law_33 (by decide) (by decide) (by decide) (by decide) ?_
        exact lo_19 hG hsc hL hc hi hd hW kk
      by_cases c33_20 : (xs i &&& 63) = 20
      · skip
        refine nk_top (y := 20) c33_20 ?_
        refine nk_tableIn (tgt := 904) (off := 871) dL_law_33 (by decide) (by decide) (by decide) (by decide) ?_
        exact lo_20 hG hsc hL hc hi hd hW kk
      by_cases c33_21 : (xs i &&& 63) = 21
      · skip
        refine nk_top (y := 21) c33_21 ?_
        refine nk_tableIn (tgt := 937) (off := 904) dL_law_33 (by decide) (by decide) (by decide) (by decide) ?_
        exact lo_21 hG hsc hL hc hi hd hW kk
      by_cases c33_22 : (xs i &&& 63) = 22
      · skip
        refine nk_top (y := 22) c33_22 ?_
        refine nk_tableIn (tgt := 980) (off := 947) dL_law_33 (by decide) (by decide) (by decide) (by decide) ?_
        exact lo_22 hG hsc hL hc hi hd hW kk
      by_cases c33_23 : (xs i &&& 63) = 23
      · skip
        refine nk_top (y := 23) c33_23 ?_
        refine nk_tableIn (tgt := 1013) (off := 980) dL_law_33 (by decide) (by decide) (by decide) (by decide) ?_
        exact lo_23 hG hsc hL hc hi hd hW kk
      by_cases c33_24 : (xs i &&& 63) = 24
      · skip
        refine nk_top (y := 24) c33_24 ?_
        refine nk_tableIn (tgt := 1056) (off := 1023) dL_law_33 (by decide) (by decide) (by decide) (by decide) ?_
        exact lo_24 hG hsc hL hc hi hd hW kk
      by_cases c33_25 : (xs i &&& 63) = 25
      · skip
        refine nk_top (y := 25) c33_25 ?_
        refine nk_tableIn (tgt := 1109) (off := 1076) dL_law_33 (by decide) (by decide) (by decide) (by decide) ?_
        exact lo_25 hG hsc hL hc hi hd hW kk
      by_cases c33_26 : (xs i &&& 63) = 26
      · skip
        refine nk_top (y := 26) c33_26 ?_
        refine nk_tableIn (tgt := 1142) (off := 1109) dL_law_33 (by decide) (by decide) (by decide) (by decide) ?_
        exact lo_26 hG hsc hL hc hi hd hW kk
      by_cases c33_27 : (xs i &&& 63) = 27
      · skip
        refine nk_top (y := 27) c33_27 ?_
        refine nk_tableIn (tgt := 1175) (off := 1142) dL_law_33 (by decide) (by decide) (by decide) (by decide) ?_
        exact lo_27 hG hsc hL hc hi hd hW kk
      by_cases c33_28 : (xs i &&& 63) = 28
      · skip
        refine nk_top (y := 28) c33_28 ?_
        refine nk_tableIn (tgt := 1208) (off := 1175) dL_law_33 (by decide) (by decide) (by decide) (by decide) ?_
        exact lo_28 hG hsc hL hc hi hd hW kk
      by_cases c33_29 : (xs i &&& 63) = 29
      · skip
        refine nk_top (y := 29) c33_29 ?_
        refine nk_tableIn (tgt := 1241) (off := 1208) dL_law_33 (by decide) (by decide) (by decide) (by decide) ?_
        exact lo_29 hG hsc hL hc hi hd hW kk
      by_cases c33_30 : (xs i &&& 63) = 30
      · skip
        refine nk_top (y := 30) c33_30 ?_
        refine nk_tableIn (tgt := 1294) (off := 1261) dL_law_33 (by decide) (by decide) (by decide) (by decide) ?_
        exact lo_30 hG hsc hL hc hi hd hW kk
      by_cases c33_31 : (xs i &&& 63) = 31
      · skip
        refine nk_top (y := 31) c33_31 ?_
        refine nk_tableIn (tgt := 1347) (off := 1314) dL_law_33 (by decide) (by decide) (by decide) (by decide) ?_
        exact lo_31 hG hsc hL hc hi hd hW kk
      by_cases c33_32 : (xs i &&& 63) = 32
      · skip
        refine nk_top (y := 32) c33_32 ?_
        refine nk_tableIn (tgt := 1370) (off := 1337) dL_law_33 (by decide) (by decide) (by decide) (by decide) ?_
        exact lo_32 hG hsc hL hc hi hd hW kk
      by_cases c33_33 : (xs i &&& 63) = 33
      · skip
        refine nk_top (y := 33) c33_33 ?_
        refine nk_tableIn (tgt := 1413) (off := 1380) dL_law_33 (by decide) (by decide) (by decide) (by decide) ?_
        exact lo_33 hG hsc hL hc hi hd hW kk
      by_cases c33_34 : (xs i &&& 63) = 34
      · skip
        refine nk_top (y := 34) c33_34 ?_
        refine nk_tableIn (tgt := 1446) (off := 1413) dL_law_33 (by decide) (by decide) (by decide) (by decide) ?_
        exact lo_34 hG hsc hL hc hi hd hW kk
      by_cases c33_35 : (xs i &&& 63) = 35
      · skip
        refine nk_top (y := 35) c33_35 ?_
        refine nk_tableIn (tgt := 1510) (off := 1477) dL_law_33 (by decide) (by decide) (by decide) (by decide) ?_
        exact lo_35 hG hsc hL hc hi hd hW kk
      by_cases c33_36 : (xs i &&& 63) = 36
      · skip
        refine nk_top (y := 36) c33_36 ?_
        refine nk_tableIn (tgt := 1553) (off := 1520) dL_law_33 (by decide) (by decide) (by decide) (by decide) ?_
        exact lo_36 hG hsc hL hc hi hd hW kk
      by_cases c33_37 : (xs i &&& 63) = 37
      · skip
        refine nk_top (y := 37) c33_37 ?_
        refine nk_tableIn (tgt := 1576) (off := 1543) dL_law_33 (by decide) (by decide) (by decide) (by decide) ?_
        exact lo_37 hG hsc hL hc hi hd hW kk
      by_cases c33_38 : (xs i &&& 63) = 38
      · skip
        refine nk_top (y := 38) c33_38 ?_
        refine nk_tableIn (tgt := 1599) (off := 1566) dL_law_33 (by decide) (by decide) (by decide) (by decide) ?_
        exact lo_38 hG hsc hL hc hi hd hW kk
      by_cases c33_39 : (xs i &&& 63) = 39
      · skip
        refine nk_top (y := 39) c33_39 ?_
        refine nk_tableIn (tgt := 1622) (off := 1589) dL_law_33 (by decide) (by decide) (by decide) (by decide) ?_
        exact lo_39 hG hsc hL hc hi hd hW kk
      by_cases c33_40 : (xs i &&& 63) = 40
      · skip
        refine nk_top (y := 40) c33_40 ?_
        refine nk_tableIn (tgt := 1655) (off := 1622) dL_law_33 (by decide) (by decide) (by decide) (by decide) ?_
        exact lo_40 hG hsc hL hc hi hd hW kk
      by_cases c33_41 : (xs i &&& 63) = 41
      · skip
        refine nk_top (y := 41) c33_41 ?_
        refine nk_tableIn (tgt := 1688) (off := 1655) dL_law_33 (by decide) (by decide) (by decide) (by decide) ?_
        exact lo_41 hG hsc hL hc hi hd hW kk
      by_cases c33_42 : (xs i &&& 63) = 42
      · skip
        refine nk_top (y := 42) c33_42 ?_
        refine nk_tableIn (tgt := 1711) (off := 1678) dL_law_33 (by decide) (by decide) (by decide) (by decide) ?_
        exact lo_42 hG hsc hL hc hi hd hW kk
      by_cases c33_43 : (xs i &&& 63) = 43
      · skip
        refine nk_top (y := 43) c33_43 ?_
        refine nk_tableIn (tgt := 1734) (off := 1701) dL_law_33 (by decide) (by decide) (by decide) (by decide) ?_
        exact lo_43 hG hsc hL hc hi hd hW kk
      have e33_0 : ((xs i &&& 63)).toInt ≠ 0 := nk_neI c33_0
      have e33_1 : ((xs i &&& 63)).toInt ≠ 1 := nk_neI c33_1
      have e33_2 : ((xs i &&& 63)).toInt ≠ 2 := nk_neI c33_2
      have e33_3 : ((xs i &&& 63)).toInt ≠ 3 := nk_neI c33_3
      have e33_4 : ((xs i &&& 63)).toInt ≠ 4 := nk_neI c33_4
      have e33_5 : ((xs i &&& 63)).toInt ≠ 5 := nk_neI c33_5
      have e33_6 : ((xs i &&& 63)).toInt ≠ 6 := nk_neI c33_6
      have e33_7 : ((xs i &&& 63)).toInt ≠ 7 := nk_neI c33_7
      have e33_8 : ((xs i &&& 63)).toInt ≠ 8 := nk_neI c33_8
      have e33_9 : ((xs i &&& 63)).toInt ≠ 9 := nk_neI c33_9
      have e33_10 : ((xs i &&& 63)).toInt ≠ 10 := nk_neI c33_10
      have e33_11 : ((xs i &&& 63)).toInt ≠ 11 := nk_neI c33_11
      have e33_12 : ((xs i &&& 63)).toInt ≠ 12 := nk_neI c33_12
      have e33_13 : ((xs i &&& 63)).toInt ≠ 13 := nk_neI c33_13
      have e33_14 : ((xs i &&& 63)).toInt ≠ 14 := nk_neI c33_14
      have e33_15 : ((xs i &&& 63)).toInt ≠ 15 := nk_neI c33_15
      have e33_16 : ((xs i &&& 63)).toInt ≠ 16 := nk_neI c33_16
      have e33_17 : ((xs i &&& 63)).toInt ≠ 17 := nk_neI c33_17
      have e33_18 : ((xs i &&& 63)).toInt ≠ 18 := nk_neI c33_18
      have e33_19 : ((xs i &&& 63)).toInt ≠ 19 := nk_neI c33_19
      have e33_20 : ((xs i &&& 63)).toInt ≠ 20 := nk_neI c33_20
      have e33_21 : ((xs i &&& 63)).toInt ≠ 21 := nk_neI c33_21
      have e33_22 : ((xs i &&& 63)).toInt ≠ 22 := nk_neI c33_22
      have e33_23 : ((xs i &&& 63)).toInt ≠ 23 := nk_neI c33_23
      have e33_24 : ((xs i &&& 63)).toInt ≠ 24 := nk_neI c33_24
      have e33_25 : ((xs i &&& 63)).toInt ≠ 25 := nk_neI c33_25
      have e33_26 : ((xs i &&& 63)).toInt ≠ 26 := nk_neI c33_26
      have e33_27 : ((xs i &&& 63)).toInt ≠ 27 := nk_neI c33_27
      have e33_28 : ((xs i &&& 63)).toInt ≠ 28 := nk_neI c33_28
      have e33_29 : ((xs i &&& 63)).toInt ≠ 29 := nk_neI c33_29
      have e33_30 : ((xs i &&& 63)).toInt ≠ 30 := nk_neI c33_30
      have e33_31 : ((xs i &&& 63)).toInt ≠ 31 := nk_neI c33_31
      have e33_32 : ((xs i &&& 63)).toInt ≠ 32 := nk_neI c33_32
      have e33_33 : ((xs i &&& 63)).toInt ≠ 33 := nk_neI c33_33
      have e33_34 : ((xs i &&& 63)).toInt ≠ 34 := nk_neI c33_34
      have e33_35 : ((xs i &&& 63)).toInt ≠ 35 := nk_neI c33_35
      have e33_36 : ((xs i &&& 63)).toInt ≠ 36 := nk_neI c33_36
      have e33_37 : ((xs i &&& 63)).toInt ≠ 37 := nk_neI c33_37
      have e33_38 : ((xs i &&& 63)).toInt ≠ 38 := nk_neI c33_38
      have e33_39 : ((xs i &&& 63)).toInt ≠ 39 := nk_neI c33_39
      have e33_40 : ((xs i &&& 63)).toInt ≠ 40 := nk_neI c33_40
      have e33_41 : ((xs i &&& 63)).toInt ≠ 41 := nk_neI c33_41
      have e33_42 : ((xs i &&& 63)).toInt ≠ 42 := nk_neI c33_42
      have e33_43 : ((xs i &&& 63)).toInt ≠ 43 := nk_neI c33_43
      refine nk_tableOut (tgt := 1747) dL_law_33 (by omega) (by decide) ?_
      exact nk_J.less (by omega) (by omega) (kk K g A I m b u l t hd hW)
    · have hx := (lw_cmp (i := i) hL (by omega)).mpr hc
      refine nk_iload_n (i := 3) dL_law_18 rfl rfl ?_
      refine nk_aload_n (i := 0) dL_law_19 rfl rfl ?_
      refine nk_tlen dL_law_20 hsc rfl ?_
      refine nk_bipush (v := 6) dL_law_21 (by decide) ?_
      refine nk_isub dL_law_23 ?_
      refine nk_icmpgt (tgt := 1753) dL_law_24 (by decide) (fun _ => ?_) (fun h24 => by first | exact absurd (hx) h24 | exact absurd h24 (hx))
      refine nk_iconst (v := 1) dL_law_1753 (by decide) ?_
      refine nk_zreturn dL_law_1754 rfl rfl ?_
      exact rfl
set_option maxRecDepth 20000 in
theorem law_J {nm : String} {G : nk_EG} (hG : nk_GS G) {s0 L : Nat} {xs : Nat → Int32} (hsc : G.2.2.1 s0 = some (L, xs)) (hL : L ≤ 3072) {bc bs : Nat} (hbc : 33 + 7 + 2 + 14 * 512 ≤ bc) (hbs : 965 + 4216 + 23 + 240 * 512 ≤ bs) : nk_J G (mL nm) 20 (fun r _ => r = some (.int 1)) bc bs 0 [some (.ref s0), none, none, none] [] nk_E := by
  refine nk_J.less (bc' := 7210) (bs' := 128084) (by omega) (by omega) ?_
  refine nk_new (bc' := 7209) (bs' := 128076) nL_7 dL_law_0 ⟨Nat.le_of_ble_eq_true rfl, Nat.le_of_ble_eq_true rfl⟩ (fun o ho => ?_)
  refine nk_dup dL_law_3 rfl ?_
  refine nk_cI (bc' := 7176) (bs' := 127111) kL_9 (s_X7_init (o := o)) dL_law_4 rfl rfl (by decide) (Nat.le_of_ble_eq_true rfl) ⟨Nat.le_of_ble_eq_true rfl, Nat.le_of_ble_eq_true rfl⟩ (fun rr K hr => ?_)
  obtain ⟨rfl, g, hW⟩ := hr
  refine nk_astore_nT (i := 1) dL_law_7 rfl (Nat.le_of_ble_eq_true rfl) ?_
  refine nk_new (bc' := 7175) (bs' := 127096) nL_10 dL_law_8 ⟨Nat.le_of_ble_eq_true rfl, Nat.le_of_ble_eq_true rfl⟩ (fun a ha => ?_)
  refine nk_dup dL_law_11 rfl ?_
  have hdj : nk_dj (nk_u nk_E a (.inr (7, [.null, .int 0, .null, .null, .null, .null, .null, .int 0, .int 0, .int 0, .null, .int 0, .int 0, .int 0, .int 0]))) K := fun x hx => by
    by_cases e : x = a
    · rw [e]; exact ha
    · rw [nk_u_ne e] at hx; cases hx
  have heq : nk_u K a (.inr (7, [.null, .int 0, .null, .null, .null, .null, .null, .int 0, .int 0, .int 0, .null, .int 0, .int 0, .int 0, .int 0])) = nk_o (nk_u nk_E a (.inr (7, [.null, .int 0, .null, .null, .null, .null, .null, .int 0, .int 0, .int 0, .null, .int 0, .int 0, .int 0, .int 0]))) K := by
    funext x
    by_cases e : x = a
    · subst e
      rw [nk_u_self, nk_o_l (nk_u_self _ _ _)]
    · rw [nk_u_ne e, nk_o_r (by rw [nk_u_ne e]; rfl)]
  refine nk_cI (bc' := 7168) (bs' := 122880) kL_12 (((s_X8_init (a := a)).frame hdj).to heq) dL_law_12 rfl rfl (by decide) (Nat.le_of_ble_eq_true rfl) ⟨Nat.le_of_ble_eq_true rfl, Nat.le_of_ble_eq_true rfl⟩ (fun rr K2 hr => ?_)
  obtain ⟨H3, ⟨rfl, ad, rfl, hi, rfl⟩, hd, rfl⟩ := hr
  refine nk_astore_nT (i := 2) dL_law_15 rfl (Nat.le_of_ble_eq_true rfl) ?_
  refine nk_iconst (v := 0) dL_law_16 (by decide) ?_
  refine nk_istore_nT (i := 3) dL_law_17 rfl (Nat.le_of_ble_eq_true rfl) ?_
  refine nk_J.to (nk_J.less (bc' := 14 * 512) (bs' := 240 * 512) (by omega) (by omega) (l_law hG hsc hL 512 0 ad K g o 0 0 0 0 0 A0 I0 (by omega) (by omega) hi hd.symm hW)) rfl rfl ?_
  exact nk_o_comm hd

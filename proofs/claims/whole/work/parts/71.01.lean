/-! the law: calls -/
set_option maxRecDepth 20000 in
theorem lo_6 {nm : String} {G : nk_EG} (hG : nk_GS G) {s0 L : Nat} {xs : Nat → Int32} (hsc : G.2.2.1 s0 = some (L, xs)) (hL : L ≤ 3072) {i : Nat} (hiL : i + 6 ≤ L) {ad : Nat → Nat} (hi : mInj ad) {K : nk_AH} {g : Nat → Nat} {o m b u l t : Nat} {A : Nat → Nat → Int32} {I : Nat → Int32} (hd : nk_dj K (mh ad A I)) (hW : cW K g o A I m b u l t) {bc bs : Nat} {Φ : Option Value → nk_AH → Prop} (kk : ∀ (K2 : nk_AH) (g2 : Nat → Nat) (A2 : Nat → Nat → Int32) (I2 : Nat → Int32) (m2 b2 u2 l2 t2 : Nat), nk_dj K2 (mh ad A2 I2) → cW K2 g2 o A2 I2 m2 b2 u2 l2 t2 → nk_J G (mL nm) 20 Φ bc bs 1747 [some (.ref s0), some (.ref o), some (.ref (ad 0)), some (.int (nI i))] [] (nk_o K2 (mh ad A2 I2))) : nk_J G (mL nm) 20 Φ (bc + 14) (bs + 240) 432 [some (.ref s0), some (.ref o), some (.ref (ad 0)), some (.int (nI i))] [] (nk_o K (mh ad A I)) := by
  obtain ⟨fo, hfo⟩ := hW.o
  have hWn := hW.1
  refine nk_aload_n (i := 1) dL_law_432 rfl rfl ?_
  refine nk_cV (bc' := bc) (bs' := bs) kL_41 ((s_X7_fault hW).frame hd) dL_law_433 (lw_o hfo) rfl rfl (by decide) (Nat.le_of_ble_eq_true rfl) ⟨by omega, by omega⟩ (fun rr H2 hr => ?_)
  obtain ⟨K2, ⟨rfl, rfl⟩, hd2, rfl⟩ := hr
  obtain ⟨fm, hfm⟩ := lw_m hd2
  refine nk_aload_n (i := 2) dL_law_436 rfl rfl ?_
  refine nk_cV (bc' := bc) (bs' := bs) kL_44 (((s_X8_fault hi).frame hd2.symm).to (nk_o_comm hd2)) dL_law_437 hfm rfl rfl (by decide) (Nat.le_of_ble_eq_true rfl) ⟨by omega, by omega⟩ (fun rr H2 hr => ?_)
  obtain ⟨H3, ⟨rfl, rfl⟩, hd3, rfl⟩ := hr
  refine nk_icmpeq (tgt := 1747) dL_law_440 (by decide) (fun _ => ?_) (fun h440 => by first | exact absurd (rfl) h440 | exact absurd h440 (rfl))
  refine nk_J.to ?_ rfl rfl (nk_o_comm hd3)
  exact kk _ _ _ _ _ _ _ _ _ hd3.symm hW
set_option maxRecDepth 20000 in
theorem lo_7 {nm : String} {G : nk_EG} (hG : nk_GS G) {s0 L : Nat} {xs : Nat → Int32} (hsc : G.2.2.1 s0 = some (L, xs)) (hL : L ≤ 3072) {i : Nat} (hiL : i + 6 ≤ L) {ad : Nat → Nat} (hi : mInj ad) {K : nk_AH} {g : Nat → Nat} {o m b u l t : Nat} {A : Nat → Nat → Int32} {I : Nat → Int32} (hd : nk_dj K (mh ad A I)) (hW : cW K g o A I m b u l t) {bc bs : Nat} {Φ : Option Value → nk_AH → Prop} (kk : ∀ (K2 : nk_AH) (g2 : Nat → Nat) (A2 : Nat → Nat → Int32) (I2 : Nat → Int32) (m2 b2 u2 l2 t2 : Nat), nk_dj K2 (mh ad A2 I2) → cW K2 g2 o A2 I2 m2 b2 u2 l2 t2 → nk_J G (mL nm) 20 Φ bc bs 1747 [some (.ref s0), some (.ref o), some (.ref (ad 0)), some (.int (nI i))] [] (nk_o K2 (mh ad A2 I2))) : nk_J G (mL nm) 20 Φ (bc + 14) (bs + 240) 445 [some (.ref s0), some (.ref o), some (.ref (ad 0)), some (.int (nI i))] [] (nk_o K (mh ad A I)) := by
  obtain ⟨fo, hfo⟩ := hW.o
  have hWn := hW.1
  refine nk_aload_n (i := 1) dL_law_445 rfl rfl ?_
  refine nk_cV (bc' := bc) (bs' := bs) kL_45 ((s_X7_undo hW).frame hd) dL_law_446 (lw_o hfo) rfl rfl (by decide) (Nat.le_of_ble_eq_true rfl) ⟨by omega, by omega⟩ (fun rr H2 hr => ?_)
  obtain ⟨K2, ⟨rfl, g2, m2, b2, u2, l2, t2, hW2⟩, hd2, rfl⟩ := hr
  obtain ⟨fm, hfm⟩ := lw_m hd2
  refine nk_aload_n (i := 2) dL_law_449 rfl rfl ?_
  refine nk_cV (bc' := bc) (bs' := bs) kL_48 (((s_X8_undo hi hWn.2.1 hWn.2.2.1).frame hd2.symm).to (nk_o_comm hd2)) dL_law_450 hfm rfl rfl (by decide) (Nat.le_of_ble_eq_true rfl) ⟨by omega, by omega⟩ (fun rr H2 hr => ?_)
  obtain ⟨H3, ⟨rfl, rfl⟩, hd3, rfl⟩ := hr
  refine nk_icmpeq (tgt := 1747) dL_law_453 (by decide) (fun _ => ?_) (fun h453 => by first | exact absurd (rfl) h453 | exact absurd h453 (rfl))
  refine nk_J.to ?_ rfl rfl (nk_o_comm hd3)
  exact kk _ _ _ _ _ _ _ _ _ hd3.symm hW2
set_option maxRecDepth 20000 in
theorem lo_8 {nm : String} {G : nk_EG} (hG : nk_GS G) {s0 L : Nat} {xs : Nat → Int32} (hsc : G.2.2.1 s0 = some (L, xs)) (hL : L ≤ 3072) {i : Nat} (hiL : i + 6 ≤ L) {ad : Nat → Nat} (hi : mInj ad) {K : nk_AH} {g : Nat → Nat} {o m b u l t : Nat} {A : Nat → Nat → Int32} {I : Nat → Int32} (hd : nk_dj K (mh ad A I)) (hW : cW K g o A I m b u l t) {bc bs : Nat} {Φ : Option Value → nk_AH → Prop} (kk : ∀ (K2 : nk_AH) (g2 : Nat → Nat) (A2 : Nat → Nat → Int32) (I2 : Nat → Int32) (m2 b2 u2 l2 t2 : Nat), nk_dj K2 (mh ad A2 I2) → cW K2 g2 o A2 I2 m2 b2 u2 l2 t2 → nk_J G (mL nm) 20 Φ bc bs 1747 [some (.ref s0), some (.ref o), some (.ref (ad 0)), some (.int (nI i))] [] (nk_o K2 (mh ad A2 I2))) : nk_J G (mL nm) 20 Φ (bc + 14) (bs + 240) 458 [some (.ref s0), some (.ref o), some (.ref (ad 0)), some (.int (nI i))] [] (nk_o K (mh ad A I)) := by
  obtain ⟨fo, hfo⟩ := hW.o
  have hWn := hW.1
  refine nk_aload_n (i := 1) dL_law_458 rfl rfl ?_
  refine nk_aload_n (i := 0) dL_law_459 rfl rfl ?_
  refine nk_iload_n (i := 3) dL_law_460 rfl rfl ?_
  refine nk_iconst (v := 1) dL_law_461 (by decide) ?_
  refine nk_iadd dL_law_462 ?_
  refine nk_tldN (j := i + 1) dL_law_463 hsc (lw_ix i 1) (by omega) (by omega) ?_
  refine nk_aload_n (i := 0) dL_law_464 rfl rfl ?_
  refine nk_iload_n (i := 3) dL_law_465 rfl rfl ?_
  refine nk_iconst (v := 2) dL_law_466 (by decide) ?_
  refine nk_iadd dL_law_467 ?_
  refine nk_tldN (j := i + 2) dL_law_468 hsc (lw_ix i 2) (by omega) (by omega) ?_
  refine nk_cV (bc' := bc) (bs' := bs) kL_49 ((s_X7_add hW).frame hd) dL_law_469 (lw_o hfo) rfl rfl (by decide) (Nat.le_of_ble_eq_true rfl) ⟨by omega, by omega⟩ (fun rr H2 hr => ?_)
  obtain ⟨K2, ⟨rfl, g2, m2, b2, u2, l2, t2, hW2⟩, hd2, rfl⟩ := hr
  obtain ⟨fm, hfm⟩ := lw_m hd2
  refine nk_aload_n (i := 2) dL_law_472 rfl rfl ?_
  refine nk_aload_n (i := 0) dL_law_473 rfl rfl ?_
  refine nk_iload_n (i := 3) dL_law_474 rfl rfl ?_
  refine nk_iconst (v := 1) dL_law_475 (by decide) ?_
  refine nk_iadd dL_law_476 ?_
  refine nk_tldN (j := i + 1) dL_law_477 hsc (lw_ix i 1) (by omega) (by omega) ?_
  refine nk_aload_n (i := 0) dL_law_478 rfl rfl ?_
  refine nk_iload_n (i := 3) dL_law_479 rfl rfl ?_
  refine nk_iconst (v := 2) dL_law_480 (by decide) ?_
  refine nk_iadd dL_law_481 ?_
  refine nk_tldN (j := i + 2) dL_law_482 hsc (lw_ix i 2) (by omega) (by omega) ?_
  refine nk_cV (bc' := bc) (bs' := bs) kL_53 (((s_X8_add hi hW.ms.1 hWn.2.1 hWn.2.2.1).frame hd2.symm).to (nk_o_comm hd2)) dL_law_483 hfm rfl rfl (by decide) (Nat.le_of_ble_eq_true rfl) ⟨by omega, by omega⟩ (fun rr H2 hr => ?_)
  obtain ⟨H3, ⟨rfl, rfl⟩, hd3, rfl⟩ := hr
  refine nk_icmpeq (tgt := 1747) dL_law_486 (by decide) (fun _ => ?_) (fun h486 => by first | exact absurd (rfl) h486 | exact absurd h486 (rfl))
  refine nk_J.to ?_ rfl rfl (nk_o_comm hd3)
  exact kk _ _ _ _ _ _ _ _ _ hd3.symm hW2
set_option maxRecDepth 20000 in
theorem lo_9 {nm : String} {G : nk_EG} (hG : nk_GS G) {s0 L : Nat} {xs : Nat → Int32} (hsc : G.2.2.1 s0 = some (L, xs)) (hL : L ≤ 3072) {i : Nat} (hiL : i + 6 ≤ L) {ad : Nat → Nat} (hi : mInj ad) {K : nk_AH} {g : Nat → Nat} {o m b u l t : Nat} {A : Nat → Nat → Int32} {I : Nat → Int32} (hd : nk_dj K (mh ad A I)) (hW : cW K g o A I m b u l t) {bc bs : Nat} {Φ : Option Value → nk_AH → Prop} (kk : ∀ (K2 : nk_AH) (g2 : Nat → Nat) (A2 : Nat → Nat → Int32) (I2 : Nat → Int32) (m2 b2 u2 l2 t2 : Nat), nk_dj K2 (mh ad A2 I2) → cW K2 g2 o A2 I2 m2 b2 u2 l2 t2 → nk_J G (mL nm) 20 Φ bc bs 1747 [some (.ref s0), some (.ref o), some (.ref (ad 0)), some (.int (nI i))] [] (nk_o K2 (mh ad A2 I2))) : nk_J G (mL nm) 20 Φ (bc + 14) (bs + 240) 491 [some (.ref s0), some (.ref o), some (.ref (ad 0)), some (.int (nI i))] [] (nk_o K (mh ad A I)) := by
  obtain ⟨fo, hfo⟩ := hW.o
  have hWn := hW.1
  refine nk_aload_n (i := 1) dL_law_491 rfl rfl ?_
  refine nk_aload_n (i := 0) dL_law_492 rfl rfl ?_
  refine nk_iload_n (i := 3) dL_law_493 rfl rfl ?_
  refine nk_iconst (v := 1) dL_law_494 (by decide) ?_
  refine nk_iadd dL_law_495 ?_
  refine nk_tldN (j := i + 1) dL_law_496 hsc (lw_ix i 1) (by omega) (by omega) ?_
  refine nk_aload_n (i := 0) dL_law_497 rfl rfl ?_
  refine nk_iload_n (i := 3) dL_law_498 rfl rfl ?_
  refine nk_iconst (v := 2) dL_law_499 (by decide) ?_
  refine nk_iadd dL_law_500 ?_
  refine nk_tldN (j := i + 2) dL_law_501 hsc (lw_ix i 2) (by omega) (by omega) ?_
  refine nk_cV (bc' := bc) (bs' := bs) kL_54 ((s_X7_take hW).frame hd) dL_law_502 (lw_o hfo) rfl rfl (by decide) (Nat.le_of_ble_eq_true rfl) ⟨by omega, by omega⟩ (fun rr H2 hr => ?_)
  obtain ⟨K2, ⟨rfl, g2, m2, b2, u2, l2, t2, hW2⟩, hd2, rfl⟩ := hr
  obtain ⟨fm, hfm⟩ := lw_m hd2
  refine nk_aload_n (i := 2) dL_law_505 rfl rfl ?_
  refine nk_aload_n (i := 0) dL_law_506 rfl rfl ?_
  refine nk_iload_n (i := 3) dL_law_507 rfl rfl ?_
  refine nk_iconst (v := 1) dL_law_508 (by decide) ?_
  refine nk_iadd dL_law_509 ?_
  refine nk_tldN (j := i + 1) dL_law_510 hsc (lw_ix i 1) (by omega) (by omega) ?_
  refine nk_aload_n (i := 0) dL_law_511 rfl rfl ?_
  refine nk_iload_n (i := 3) dL_law_512 rfl rfl ?_
  refine nk_iconst (v := 2) dL_law_513 (by decide) ?_
  refine nk_iadd dL_law_514 ?_
  refine nk_tldN (j := i + 2) dL_law_515 hsc (lw_ix i 2) (by omega) (by omega) ?_
  refine nk_cV (bc' := bc) (bs' := bs) kL_57 (((s_X8_take hi hW.ms.1 hWn.2.1 hWn.2.2.1).frame hd2.symm).to (nk_o_comm hd2)) dL_law_516 hfm rfl rfl (by decide) (Nat.le_of_ble_eq_true rfl) ⟨by omega, by omega⟩ (fun rr H2 hr => ?_)
  obtain ⟨H3, ⟨rfl, rfl⟩, hd3, rfl⟩ := hr
  refine nk_icmpeq (tgt := 1747) dL_law_519 (by decide) (fun _ => ?_) (fun h519 => by first | exact absurd (rfl) h519 | exact absurd h519 (rfl))
  refine nk_J.to ?_ rfl rfl (nk_o_comm hd3)
  exact kk _ _ _ _ _ _ _ _ _ hd3.symm hW2
set_option maxRecDepth 20000 in
theorem lo_10 {nm : String} {G : nk_EG} (hG : nk_GS G) {s0 L : Nat} {xs : Nat → Int32} (hsc : G.2.2.1 s0 = some (L, xs)) (hL : L ≤ 3072) {i : Nat} (hiL : i + 6 ≤ L) {ad : Nat → Nat} (hi : mInj ad) {K : nk_AH} {g : Nat → Nat} {o m b u l t : Nat} {A : Nat → Nat → Int32} {I : Nat → Int32} (hd : nk_dj K (mh ad A I)) (hW : cW K g o A I m b u l t) {bc bs : Nat} {Φ : Option Value → nk_AH → Prop} (kk : ∀ (K2 : nk_AH) (g2 : Nat → Nat) (A2 : Nat → Nat → Int32) (I2 : Nat → Int32) (m2 b2 u2 l2 t2 : Nat), nk_dj K2 (mh ad A2 I2) → cW K2 g2 o A2 I2 m2 b2 u2 l2 t2 → nk_J G (mL nm) 20 Φ bc bs 1747 [some (.ref s0), some (.ref o), some (.ref (ad 0)), some (.int (nI i))] [] (nk_o K2 (mh ad A2 I2))) : nk_J G (mL nm) 20 Φ (bc + 14) (bs + 240) 524 [some (.ref s0), some (.ref o), some (.ref (ad 0)), some (.int (nI i))] [] (nk_o K (mh ad A I)) := by
  obtain ⟨fo, hfo⟩ := hW.o
  have hWn := hW.1
  refine nk_aload_n (i := 1) dL_law_524 rfl rfl ?_
  refine nk_aload_n (i := 0) dL_law_525 rfl rfl ?_
  refine nk_iload_n (i := 3) dL_law_526 rfl rfl ?_
  refine nk_iconst (v := 1) dL_law_527 (by decide) ?_
  refine nk_iadd dL_law_528 ?_
  refine nk_tldN (j := i + 1) dL_law_529 hsc (lw_ix i 1) (by omega) (by omega) ?_
  refine nk_aload_n (i := 0) dL_law_530 rfl rfl ?_
  refine nk_iload_n (i := 3) dL_law_531 rfl rfl ?_
  refine nk_iconst (v := 2) dL_law_532 (by decide) ?_
  refine nk_iadd dL_law_533 ?_
  refine nk_tldN (j := i + 2) dL_law_534 hsc (lw_ix i 2) (by omega) (by omega) ?_
  refine nk_aload_n (i := 0) dL_law_535 rfl rfl ?_
  refine nk_iload_n (i := 3) dL_law_536 rfl rfl ?_
  refine nk_iconst (v := 3) dL_law_537 (by decide) ?_
  refine nk_iadd dL_law_538 ?_
  refine nk_tldN (j := i + 3) dL_law_539 hsc (lw_ix i 3) (by omega) (by omega) ?_
  refine nk_cV (bc' := bc) (bs' := bs) kL_58 ((s_X7_flip hW).frame hd) dL_law_540 (lw_o hfo) rfl rfl (by decide) (Nat.le_of_ble_eq_true rfl) ⟨by omega, by omega⟩ (fun rr H2 hr => ?_)
  obtain ⟨K2, ⟨rfl, g2, m2, b2, u2, l2, t2, hW2⟩, hd2, rfl⟩ := hr
  obtain ⟨fm, hfm⟩ := lw_m hd2
  refine nk_aload_n (i := 2) dL_law_543 rfl rfl ?_
  refine nk_aload_n (i := 0) dL_law_544 rfl rfl ?_
  refine nk_iload_n (i := 3) dL_law_545 rfl rfl ?_
  refine nk_iconst (v := 1) dL_law_546 (by decide) ?_
  refine nk_iadd dL_law_547 ?_
  refine nk_tldN (j := i + 1) dL_law_548 hsc (lw_ix i 1) (by omega) (by omega) ?_
  refine nk_aload_n (i := 0) dL_law_549 rfl rfl ?_
  refine nk_iload_n (i := 3) dL_law_550 rfl rfl ?_
  refine nk_iconst (v := 2) dL_law_551 (by decide) ?_
  refine nk_iadd dL_law_552 ?_
  refine nk_tldN (j := i + 2) dL_law_553 hsc (lw_ix i 2) (by omega) (by omega) ?_
  refine nk_aload_n (i := 0) dL_law_554 rfl rfl ?_
  refine nk_iload_n (i := 3) dL_law_555 rfl rfl ?_
  refine nk_iconst (v := 3) dL_law_556 (by decide) ?_
  refine nk_iadd dL_law_557 ?_
  refine nk_tldN (j := i + 3) dL_law_558 hsc (lw_ix i 3) (by omega) (by omega) ?_
  refine nk_cV (bc' := bc) (bs' := bs) kL_61 (((s_X8_flip hi hW.ms.1 hWn.2.1 hWn.2.2.1).frame hd2.symm).to (nk_o_comm hd2)) dL_law_559 hfm rfl rfl (by decide) (Nat.le_of_ble_eq_true rfl) ⟨by omega, by omega⟩ (fun rr H2 hr => ?_)
  obtain ⟨H3, ⟨rfl, rfl⟩, hd3, rfl⟩ := hr
  refine nk_icmpeq (tgt := 1747) dL_law_562 (by decide) (fun _ => ?_) (fun h562 => by first | exact absurd (rfl) h562 | exact absurd h562 (rfl))
  refine nk_J.to ?_ rfl rfl (nk_o_comm hd3)
  exact kk _ _ _ _ _ _ _ _ _ hd3.symm hW2
set_option maxRecDepth 20000 in
theorem lo_11 {nm : String} {G : nk_EG} (hG : nk_GS G) {s0 L : Nat} {xs : Nat → Int32} (hsc : G.2.2.1 s0 = some (L, xs)) (hL : L ≤ 3072) {i : Nat} (hiL : i + 6 ≤ L) {ad : Nat → Nat} (hi : mInj ad) {K : nk_AH} {g : Nat → Nat} {o m b u l t : Nat} {A : Nat → Nat → Int32} {I : Nat → Int32} (hd : nk_dj K (mh ad A I)) (hW : cW K g o A I m b u l t) {bc bs : Nat} {Φ : Option Value → nk_AH → Prop} (kk : ∀ (K2 : nk_AH) (g2 : Nat → Nat) (A2 : Nat → Nat → Int32) (I2 : Nat → Int32) (m2 b2 u2 l2 t2 : Nat), nk_dj K2 (mh ad A2 I2) → cW K2 g2 o A2 I2 m2 b2 u2 l2 t2 → nk_J G (mL nm) 20 Φ bc bs 1747 [some (.ref s0), some (.ref o), some (.ref (ad 0)), some (.int (nI i))] [] (nk_o K2 (mh ad A2 I2))) : nk_J G (mL nm) 20 Φ (bc + 14) (bs + 240) 567 [some (.ref s0), some (.ref o), some (.ref (ad 0)), some (.int (nI i))] [] (nk_o K (mh ad A I)) := by
  obtain ⟨fo, hfo⟩ := hW.o
  have hWn := hW.1
  refine nk_aload_n (i := 1) dL_law_567 rfl rfl ?_
  refine nk_aload_n (i := 0) dL_law_568 rfl rfl ?_
  refine nk_iload_n (i := 3) dL_law_569 rfl rfl ?_
  refine nk_iconst (v := 1) dL_law_570 (by decide) ?_
  refine nk_iadd dL_law_571 ?_
  refine nk_tldN (j := i + 1) dL_law_572 hsc (lw_ix i 1) (by omega) (by omega) ?_
  refine nk_aload_n (i := 0) dL_law_573 rfl rfl ?_
  refine nk_iload_n (i := 3) dL_law_574 rfl rfl ?_
  refine nk_iconst (v := 2) dL_law_575 (by decide) ?_
  refine nk_iadd dL_law_576 ?_
  refine nk_tldN (j := i + 2) dL_law_577 hsc (lw_ix i 2) (by omega) (by omega) ?_
  refine nk_aload_n (i := 0) dL_law_578 rfl rfl ?_
  refine nk_iload_n (i := 3) dL_law_579 rfl rfl ?_
  refine nk_iconst (v := 3) dL_law_580 (by decide) ?_
  refine nk_iadd dL_law_581 ?_
  refine nk_tldN (j := i + 3) dL_law_582 hsc (lw_ix i 3) (by omega) (by omega) ?_
  refine nk_aload_n (i := 0) dL_law_583 rfl rfl ?_
  refine nk_iload_n (i := 3) dL_law_584 rfl rfl ?_
  refine nk_iconst (v := 4) dL_law_585 (by decide) ?_
  refine nk_iadd dL_law_586 ?_
  refine nk_tldN (j := i + 4) dL_law_587 hsc (lw_ix i 4) (by omega) (by omega) ?_
  refine nk_cV (bc' := bc) (bs' := bs) kL_62 ((s_X7_join hW).frame hd) dL_law_588 (lw_o hfo) rfl rfl (by decide) (Nat.le_of_ble_eq_true rfl) ⟨by omega, by omega⟩ (fun rr H2 hr => ?_)
  obtain ⟨K2, ⟨rfl, g2, m2, b2, u2, l2, t2, hW2⟩, hd2, rfl⟩ := hr
  obtain ⟨fm, hfm⟩ := lw_m hd2
  refine nk_aload_n (i := 2) dL_law_591 rfl rfl ?_
  refine nk_aload_n (i := 0) dL_law_592 rfl rfl ?_
  refine nk_iload_n (i := 3) dL_law_593 rfl rfl ?_
  refine nk_iconst (v := 1) dL_law_594 (by decide) ?_
  refine nk_iadd dL_law_595 ?_
  refine nk_tldN (j := i + 1) dL_law_596 hsc (lw_ix i 1) (by omega) (by omega) ?_
  refine nk_aload_n (i := 0) dL_law_597 rfl rfl ?_
  refine nk_iload_n (i := 3) dL_law_598 rfl rfl ?_
  refine nk_iconst (v := 2) dL_law_599 (by decide) ?_
  refine nk_iadd dL_law_600 ?_
  refine nk_tldN (j := i + 2) dL_law_601 hsc (lw_ix i 2) (by omega) (by omega) ?_
  refine nk_aload_n (i := 0) dL_law_602 rfl rfl ?_
  refine nk_iload_n (i := 3) dL_law_603 rfl rfl ?_
  refine nk_iconst (v := 3) dL_law_604 (by decide) ?_
  refine nk_iadd dL_law_605 ?_
  refine nk_tldN (j := i + 3) dL_law_606 hsc (lw_ix i 3) (by omega) (by omega) ?_
  refine nk_aload_n (i := 0) dL_law_607 rfl rfl ?_
  refine nk_iload_n (i := 3) dL_law_608 rfl rfl ?_
  refine nk_iconst (v := 4) dL_law_609 (by decide) ?_
  refine nk_iadd dL_law_610 ?_
  refine nk_tldN (j := i + 4) dL_law_611 hsc (lw_ix i 4) (by omega) (by omega) ?_
  refine nk_cV (bc' := bc) (bs' := bs) kL_66 (((s_X8_join hi hW.ms.1 hWn.2.1 hWn.2.2.1).frame hd2.symm).to (nk_o_comm hd2)) dL_law_612 hfm rfl rfl (by decide) (Nat.le_of_ble_eq_true rfl) ⟨by omega, by omega⟩ (fun rr H2 hr => ?_)
  obtain ⟨H3, ⟨rfl, rfl⟩, hd3, rfl⟩ := hr
  refine nk_icmpeq (tgt := 1747) dL_law_615 (by decide) (fun _ => ?_) (fun h615 => by first | exact absurd (rfl) h615 | exact absurd h615 (rfl))
  refine nk_J.to ?_ rfl rfl (nk_o_comm hd3)
  exact kk _ _ _ _ _ _ _ _ _ hd3.symm hW2
set_option maxRecDepth 20000 in
theorem lo_12 {nm : String} {G : nk_EG} (hG : nk_GS G) {s0 L : Nat} {xs : Nat → Int32} (hsc : G.2.2.1 s0 = some (L, xs)) (hL : L ≤ 3072) {i : Nat} (hiL : i + 6 ≤ L) {ad : Nat → Nat} (hi : mInj ad) {K : nk_AH} {g : Nat → Nat} {o m b u l t : Nat} {A : Nat → Nat → Int32} {I : Nat → Int32} (hd : nk_dj K (mh ad A I)) (hW : cW K g o A I m b u l t) {bc bs : Nat} {Φ : Option Value → nk_AH → Prop} (kk : ∀ (K2 : nk_AH) (g2 : Nat → Nat) (A2 : Nat → Nat → Int32) (I2 : Nat → Int32) (m2 b2 u2 l2 t2 : Nat), nk_dj K2 (mh ad A2 I2) → cW K2 g2 o A2 I2 m2 b2 u2 l2 t2 → nk_J G (mL nm) 20 Φ bc bs 1747 [some (.ref s0), some (.ref o), some (.ref (ad 0)), some (.int (nI i))] [] (nk_o K2 (mh ad A2 I2))) : nk_J G (mL nm) 20 Φ (bc + 14) (bs + 240) 620 [some (.ref s0), some (.ref o), some (.ref (ad 0)), some (.int (nI i))] [] (nk_o K (mh ad A I)) := by
  obtain ⟨fo, hfo⟩ := hW.o
  have hWn := hW.1
  refine nk_aload_n (i := 1) dL_law_620 rfl rfl ?_
  refine nk_aload_n (i := 0) dL_law_621 rfl rfl ?_
  refine nk_iload_n (i := 3) dL_law_622 rfl rfl ?_
  refine nk_iconst (v := 1) dL_law_623 (by decide) ?_
  refine nk_iadd dL_law_624 ?_
  refine nk_tldN (j := i + 1) dL_law_625 hsc (lw_ix i 1) (by omega) (by omega) ?_
  refine nk_aload_n (i := 0) dL_law_626 rfl rfl ?_
  refine nk_iload_n (i := 3) dL_law_627 rfl rfl ?_
  refine nk_iconst (v := 2) dL_law_628 (by decide) ?_
  refine nk_iadd dL_law_629 ?_
  refine nk_tldN (j := i + 2) dL_law_630 hsc (lw_ix i 2) (by omega) (by omega) ?_
  refine nk_cV (bc' := bc) (bs' := bs) kL_67 ((s_X7_shift hW).frame hd) dL_law_631 (lw_o hfo) rfl rfl (by decide) (Nat.le_of_ble_eq_true rfl) ⟨by omega, by omega⟩ (fun rr H2 hr => ?_)
  obtain ⟨K2, ⟨rfl, g2, m2, b2, u2, l2, t2, hW2⟩, hd2, rfl⟩ := hr
  obtain ⟨fm, hfm⟩ := lw_m hd2
  refine nk_aload_n (i := 2) dL_law_634 rfl rfl ?_
  refine nk_aload_n (i := 0) dL_law_635 rfl rfl ?_
  refine nk_iload_n (i := 3) dL_law_636 rfl rfl ?_
  refine nk_iconst (v := 1) dL_law_637 (by decide) ?_
  refine nk_iadd dL_law_638 ?_
  refine nk_tldN (j := i + 1) dL_law_639 hsc (lw_ix i 1) (by omega) (by omega) ?_
  refine nk_aload_n (i := 0) dL_law_640 rfl rfl ?_
  refine nk_iload_n (i := 3) dL_law_641 rfl rfl ?_
  refine nk_iconst (v := 2) dL_law_642 (by decide) ?_
  refine nk_iadd dL_law_643 ?_
  refine nk_tldN (j := i + 2) dL_law_644 hsc (lw_ix i 2) (by omega) (by omega) ?_
  refine nk_cV (bc' := bc) (bs' := bs) kL_70 (((s_X8_shift hi hW.ms.1 hWn.2.1 hWn.2.2.1).frame hd2.symm).to (nk_o_comm hd2)) dL_law_645 hfm rfl rfl (by decide) (Nat.le_of_ble_eq_true rfl) ⟨by omega, by omega⟩ (fun rr H2 hr => ?_)
  obtain ⟨H3, ⟨rfl, rfl⟩, hd3, rfl⟩ := hr
  refine nk_icmpeq (tgt := 1747) dL_law_648 (by decide) (fun _ => ?_) (fun h648 => by first | exact absurd (rfl) h648 | exact absurd h648 (rfl))
  refine nk_J.to ?_ rfl rfl (nk_o_comm hd3)
  exact kk _ _ _ _ _ _ _ _ _ hd3.symm hW2
set_option maxRecDepth 20000 in
theorem lo_13 {nm : String} {G : nk_EG} (hG : nk_GS G) {s0 L : Nat} {xs : Nat → Int32} (hsc : G.2.2.1 s0 = some (L, xs)) (hL : L ≤ 3072) {i : Nat} (hiL : i + 6 ≤ L) {ad : Nat → Nat} (hi : mInj ad) {K : nk_AH} {g : Nat → Nat} {o m b u l t : Nat} {A : Nat → Nat → Int32} {I : Nat → Int32} (hd : nk_dj K (mh ad A I)) (hW : cW K g o A I m b u l t) {bc bs : Nat} {Φ : Option Value → nk_AH → Prop} (kk : ∀ (K2 : nk_AH) (g2 : Nat → Nat) (A2 : Nat → Nat → Int32) (I2 : Nat → Int32) (m2 b2 u2 l2 t2 : Nat), nk_dj K2 (mh ad A2 I2) → cW K2 g2 o A2 I2 m2 b2 u2 l2 t2 → nk_J G (mL nm) 20 Φ bc bs 1747 [some (.ref s0), some (.ref o), some (.ref (ad 0)), some (.int (nI i))] [] (nk_o K2 (mh ad A2 I2))) : nk_J G (mL nm) 20 Φ (bc + 14) (bs + 240) 653 [some (.ref s0), some (.ref o), some (.ref (ad 0)), some (.int (nI i))] [] (nk_o K (mh ad A I)) := by
  obtain ⟨fo, hfo⟩ := hW.o
  have hWn := hW.1
  refine nk_aload_n (i := 1) dL_law_653 rfl rfl ?_
  refine nk_aload_n (i := 0) dL_law_654 rfl rfl ?_
  refine nk_iload_n (i := 3) dL_law_655 rfl rfl ?_
  refine nk_iconst (v := 1) dL_law_656 (by decide) ?_
  refine nk_iadd dL_law_657 ?_
  refine nk_tldN (j := i + 1) dL_law_658 hsc (lw_ix i 1) (by omega) (by omega) ?_
  refine nk_aload_n (i := 0) dL_law_659 rfl rfl ?_
  refine nk_iload_n (i := 3) dL_law_660 rfl rfl ?_
  refine nk_iconst (v := 2) dL_law_661 (by decide) ?_
  refine nk_iadd dL_law_662 ?_
  refine nk_tldN (j := i + 2) dL_law_663 hsc (lw_ix i 2) (by omega) (by omega) ?_
  refine nk_aload_n (i := 0) dL_law_664 rfl rfl ?_
  refine nk_iload_n (i := 3) dL_law_665 rfl rfl ?_
  refine nk_iconst (v := 3) dL_law_666 (by decide) ?_
  refine nk_iadd dL_law_667 ?_
  refine nk_tldN (j := i + 3) dL_law_668 hsc (lw_ix i 3) (by omega) (by omega) ?_
  refine nk_aload_n (i := 0) dL_law_669 rfl rfl ?_
  refine nk_iload_n (i := 3) dL_law_670 rfl rfl ?_
  refine nk_iconst (v := 4) dL_law_671 (by decide) ?_
  refine nk_iadd dL_law_672 ?_
  refine nk_tldN (j := i + 4) dL_law_673 hsc (lw_ix i 4) (by omega) (by omega) ?_
  refine nk_cV (bc' := bc) (bs' := bs) kL_71 ((s_X7_gather hW).frame hd) dL_law_674 (lw_o hfo) rfl rfl (by decide) (Nat.le_of_ble_eq_true rfl) ⟨by omega, by omega⟩ (fun rr H2 hr => ?_)
  obtain ⟨K2, ⟨rfl, g2, m2, b2, u2, l2, t2, hW2⟩, hd2, rfl⟩ := hr
  obtain ⟨fm, hfm⟩ := lw_m hd2
  refine nk_aload_n (i := 2) dL_law_677 rfl rfl ?_
  refine nk_aload_n (i := 0) dL_law_678 rfl rfl ?_
  refine nk_iload_n (i := 3) dL_law_679 rfl rfl ?_
  refine nk_iconst (v := 1) dL_law_680 (by decide) ?_
  refine nk_iadd dL_law_681 ?_
  refine nk_tldN (j := i + 1) dL_law_682 hsc (lw_ix i 1) (by omega) (by omega) ?_
  refine nk_aload_n (i := 0) dL_law_683 rfl rfl ?_
  refine nk_iload_n (i := 3) dL_law_684 rfl rfl ?_
  refine nk_iconst (v := 2) dL_law_685 (by decide) ?_
  refine nk_iadd dL_law_686 ?_
  refine nk_tldN (j := i + 2) dL_law_687 hsc (lw_ix i 2) (by omega) (by omega) ?_
  refine nk_aload_n (i := 0) dL_law_688 rfl rfl ?_
  refine nk_iload_n (i := 3) dL_law_689 rfl rfl ?_
  refine nk_iconst (v := 3) dL_law_690 (by decide) ?_
  refine nk_iadd dL_law_691 ?_
  refine nk_tldN (j := i + 3) dL_law_692 hsc (lw_ix i 3) (by omega) (by omega) ?_
  refine nk_aload_n (i := 0) dL_law_693 rfl rfl ?_
  refine nk_iload_n (i := 3) dL_law_694 rfl rfl ?_
  refine nk_iconst (v := 4) dL_law_695 (by decide) ?_
  refine nk_iadd dL_law_696 ?_
  refine nk_tldN (j := i + 4) dL_law_697 hsc (lw_ix i 4) (by omega) (by omega) ?_
  refine nk_cV (bc' := bc) (bs' := bs) kL_74 (((s_X8_gather hi hW.ms.1 hWn.2.1 hWn.2.2.1 hWn.1).frame hd2.symm).to (nk_o_comm hd2)) dL_law_698 hfm rfl rfl (by decide) (Nat.le_of_ble_eq_true rfl) ⟨by omega, by omega⟩ (fun rr H2 hr => ?_)
  obtain ⟨H3, ⟨rfl, rfl⟩, hd3, rfl⟩ := hr
  refine nk_icmpeq (tgt := 1747) dL_law_701 (by decide) (fun _ => ?_) (fun h701 => by first | exact absurd (rfl) h701 | exact absurd h701 (rfl))
  refine nk_J.to ?_ rfl rfl (nk_o_comm hd3)
  exact kk _ _ _ _ _ _ _ _ _ hd3.symm hW2

/-! the law: calls -/
set_option maxRecDepth 20000 in
theorem lo_37 {nm : String} {G : nk_EG} (hG : nk_GS G) {s0 L : Nat} {xs : Nat → Int32} (hsc : G.2.2.1 s0 = some (L, xs)) (hL : L ≤ 3072) {i : Nat} (hiL : i + 6 ≤ L) {ad : Nat → Nat} (hi : mInj ad) {K : nk_AH} {g : Nat → Nat} {o m b u l t : Nat} {A : Nat → Nat → Int32} {I : Nat → Int32} (hd : nk_dj K (mh ad A I)) (hW : cW K g o A I m b u l t) {bc bs : Nat} {Φ : Option Value → nk_AH → Prop} (kk : ∀ (K2 : nk_AH) (g2 : Nat → Nat) (A2 : Nat → Nat → Int32) (I2 : Nat → Int32) (m2 b2 u2 l2 t2 : Nat), nk_dj K2 (mh ad A2 I2) → cW K2 g2 o A2 I2 m2 b2 u2 l2 t2 → nk_J G (mL nm) 20 Φ bc bs 1747 [some (.ref s0), some (.ref o), some (.ref (ad 0)), some (.int (nI i))] [] (nk_o K2 (mh ad A2 I2))) : nk_J G (mL nm) 20 Φ (bc + 14) (bs + 240) 1576 [some (.ref s0), some (.ref o), some (.ref (ad 0)), some (.int (nI i))] [] (nk_o K (mh ad A I)) := by
  obtain ⟨fo, hfo⟩ := hW.o
  have hWn := hW.1
  refine nk_aload_n (i := 1) dL_law_1576 rfl rfl ?_
  refine nk_aload_n (i := 0) dL_law_1577 rfl rfl ?_
  refine nk_iload_n (i := 3) dL_law_1578 rfl rfl ?_
  refine nk_iconst (v := 1) dL_law_1579 (by decide) ?_
  refine nk_iadd dL_law_1580 ?_
  refine nk_tldN (j := i + 1) dL_law_1581 hsc (lw_ix i 1) (by omega) (by omega) ?_
  refine nk_cV (bc' := bc) (bs' := bs) kL_168 ((s_X7_restore hW).frame hd) dL_law_1582 (lw_o hfo) rfl rfl (by decide) (Nat.le_of_ble_eq_true rfl) ⟨by omega, by omega⟩ (fun rr H2 hr => ?_)
  obtain ⟨K2, ⟨rfl, g2, m2, b2, u2, l2, t2, hW2⟩, hd2, rfl⟩ := hr
  obtain ⟨fm, hfm⟩ := lw_m hd2
  refine nk_aload_n (i := 2) dL_law_1585 rfl rfl ?_
  refine nk_aload_n (i := 0) dL_law_1586 rfl rfl ?_
  refine nk_iload_n (i := 3) dL_law_1587 rfl rfl ?_
  refine nk_iconst (v := 1) dL_law_1588 (by decide) ?_
  refine nk_iadd dL_law_1589 ?_
  refine nk_tldN (j := i + 1) dL_law_1590 hsc (lw_ix i 1) (by omega) (by omega) ?_
  refine nk_cV (bc' := bc) (bs' := bs) kL_171 (((s_X8_restore hi).frame hd2.symm).to (nk_o_comm hd2)) dL_law_1591 hfm rfl rfl (by decide) (Nat.le_of_ble_eq_true rfl) ⟨by omega, by omega⟩ (fun rr H2 hr => ?_)
  obtain ⟨H3, ⟨rfl, rfl⟩, hd3, rfl⟩ := hr
  refine nk_icmpeq (tgt := 1747) dL_law_1594 (by decide) (fun _ => ?_) (fun h1594 => by first | exact absurd (rfl) h1594 | exact absurd h1594 (rfl))
  refine nk_J.to ?_ rfl rfl (nk_o_comm hd3)
  exact kk _ _ _ _ _ _ _ _ _ hd3.symm hW2
set_option maxRecDepth 20000 in
theorem lo_38 {nm : String} {G : nk_EG} (hG : nk_GS G) {s0 L : Nat} {xs : Nat → Int32} (hsc : G.2.2.1 s0 = some (L, xs)) (hL : L ≤ 3072) {i : Nat} (hiL : i + 6 ≤ L) {ad : Nat → Nat} (hi : mInj ad) {K : nk_AH} {g : Nat → Nat} {o m b u l t : Nat} {A : Nat → Nat → Int32} {I : Nat → Int32} (hd : nk_dj K (mh ad A I)) (hW : cW K g o A I m b u l t) {bc bs : Nat} {Φ : Option Value → nk_AH → Prop} (kk : ∀ (K2 : nk_AH) (g2 : Nat → Nat) (A2 : Nat → Nat → Int32) (I2 : Nat → Int32) (m2 b2 u2 l2 t2 : Nat), nk_dj K2 (mh ad A2 I2) → cW K2 g2 o A2 I2 m2 b2 u2 l2 t2 → nk_J G (mL nm) 20 Φ bc bs 1747 [some (.ref s0), some (.ref o), some (.ref (ad 0)), some (.int (nI i))] [] (nk_o K2 (mh ad A2 I2))) : nk_J G (mL nm) 20 Φ (bc + 14) (bs + 240) 1599 [some (.ref s0), some (.ref o), some (.ref (ad 0)), some (.int (nI i))] [] (nk_o K (mh ad A I)) := by
  obtain ⟨fo, hfo⟩ := hW.o
  have hWn := hW.1
  refine nk_aload_n (i := 1) dL_law_1599 rfl rfl ?_
  refine nk_aload_n (i := 0) dL_law_1600 rfl rfl ?_
  refine nk_iload_n (i := 3) dL_law_1601 rfl rfl ?_
  refine nk_iconst (v := 1) dL_law_1602 (by decide) ?_
  refine nk_iadd dL_law_1603 ?_
  refine nk_tldN (j := i + 1) dL_law_1604 hsc (lw_ix i 1) (by omega) (by omega) ?_
  refine nk_cV (bc' := bc) (bs' := bs) kL_172 ((s_X7_kind hW.V).frame hd) dL_law_1605 (lw_o hfo) rfl rfl (by decide) (Nat.le_of_ble_eq_true rfl) ⟨by omega, by omega⟩ (fun rr H2 hr => ?_)
  obtain ⟨K2, ⟨rfl, rfl⟩, hd2, rfl⟩ := hr
  obtain ⟨fm, hfm⟩ := lw_m hd2
  refine nk_aload_n (i := 2) dL_law_1608 rfl rfl ?_
  refine nk_aload_n (i := 0) dL_law_1609 rfl rfl ?_
  refine nk_iload_n (i := 3) dL_law_1610 rfl rfl ?_
  refine nk_iconst (v := 1) dL_law_1611 (by decide) ?_
  refine nk_iadd dL_law_1612 ?_
  refine nk_tldN (j := i + 1) dL_law_1613 hsc (lw_ix i 1) (by omega) (by omega) ?_
  refine nk_cV (bc' := bc) (bs' := bs) kL_175 (((s_X8_kind hi hW.ms.1).frame hd2.symm).to (nk_o_comm hd2)) dL_law_1614 hfm rfl rfl (by decide) (Nat.le_of_ble_eq_true rfl) ⟨by omega, by omega⟩ (fun rr H2 hr => ?_)
  obtain ⟨H3, ⟨rfl, rfl⟩, hd3, rfl⟩ := hr
  refine nk_icmpeq (tgt := 1747) dL_law_1617 (by decide) (fun _ => ?_) (fun h1617 => by first | exact absurd (rfl) h1617 | exact absurd h1617 (rfl))
  refine nk_J.to ?_ rfl rfl (nk_o_comm hd3)
  exact kk _ _ _ _ _ _ _ _ _ hd3.symm hW
set_option maxRecDepth 20000 in
theorem lo_39 {nm : String} {G : nk_EG} (hG : nk_GS G) {s0 L : Nat} {xs : Nat → Int32} (hsc : G.2.2.1 s0 = some (L, xs)) (hL : L ≤ 3072) {i : Nat} (hiL : i + 6 ≤ L) {ad : Nat → Nat} (hi : mInj ad) {K : nk_AH} {g : Nat → Nat} {o m b u l t : Nat} {A : Nat → Nat → Int32} {I : Nat → Int32} (hd : nk_dj K (mh ad A I)) (hW : cW K g o A I m b u l t) {bc bs : Nat} {Φ : Option Value → nk_AH → Prop} (kk : ∀ (K2 : nk_AH) (g2 : Nat → Nat) (A2 : Nat → Nat → Int32) (I2 : Nat → Int32) (m2 b2 u2 l2 t2 : Nat), nk_dj K2 (mh ad A2 I2) → cW K2 g2 o A2 I2 m2 b2 u2 l2 t2 → nk_J G (mL nm) 20 Φ bc bs 1747 [some (.ref s0), some (.ref o), some (.ref (ad 0)), some (.int (nI i))] [] (nk_o K2 (mh ad A2 I2))) : nk_J G (mL nm) 20 Φ (bc + 14) (bs + 240) 1622 [some (.ref s0), some (.ref o), some (.ref (ad 0)), some (.int (nI i))] [] (nk_o K (mh ad A I)) := by
  obtain ⟨fo, hfo⟩ := hW.o
  have hWn := hW.1
  refine nk_aload_n (i := 1) dL_law_1622 rfl rfl ?_
  refine nk_aload_n (i := 0) dL_law_1623 rfl rfl ?_
  refine nk_iload_n (i := 3) dL_law_1624 rfl rfl ?_
  refine nk_iconst (v := 1) dL_law_1625 (by decide) ?_
  refine nk_iadd dL_law_1626 ?_
  refine nk_tldN (j := i + 1) dL_law_1627 hsc (lw_ix i 1) (by omega) (by omega) ?_
  refine nk_aload_n (i := 0) dL_law_1628 rfl rfl ?_
  refine nk_iload_n (i := 3) dL_law_1629 rfl rfl ?_
  refine nk_iconst (v := 2) dL_law_1630 (by decide) ?_
  refine nk_iadd dL_law_1631 ?_
  refine nk_tldN (j := i + 2) dL_law_1632 hsc (lw_ix i 2) (by omega) (by omega) ?_
  refine nk_cV (bc' := bc) (bs' := bs) kL_176 ((s_X7_as hG hW).frame hd) dL_law_1633 (lw_o hfo) rfl rfl (by decide) (Nat.le_of_ble_eq_true rfl) ⟨by omega, by omega⟩ (fun rr H2 hr => ?_)
  obtain ⟨K2, ⟨rfl, g2, m2, b2, u2, l2, t2, hW2⟩, hd2, rfl⟩ := hr
  obtain ⟨fm, hfm⟩ := lw_m hd2
  refine nk_aload_n (i := 2) dL_law_1636 rfl rfl ?_
  refine nk_aload_n (i := 0) dL_law_1637 rfl rfl ?_
  refine nk_iload_n (i := 3) dL_law_1638 rfl rfl ?_
  refine nk_iconst (v := 1) dL_law_1639 (by decide) ?_
  refine nk_iadd dL_law_1640 ?_
  refine nk_tldN (j := i + 1) dL_law_1641 hsc (lw_ix i 1) (by omega) (by omega) ?_
  refine nk_aload_n (i := 0) dL_law_1642 rfl rfl ?_
  refine nk_iload_n (i := 3) dL_law_1643 rfl rfl ?_
  refine nk_iconst (v := 2) dL_law_1644 (by decide) ?_
  refine nk_iadd dL_law_1645 ?_
  refine nk_tldN (j := i + 2) dL_law_1646 hsc (lw_ix i 2) (by omega) (by omega) ?_
  refine nk_cV (bc' := bc) (bs' := bs) kL_179 (((s_X8_as hi hW.ms.1).frame hd2.symm).to (nk_o_comm hd2)) dL_law_1647 hfm rfl rfl (by decide) (Nat.le_of_ble_eq_true rfl) ⟨by omega, by omega⟩ (fun rr H2 hr => ?_)
  obtain ⟨H3, ⟨rfl, rfl⟩, hd3, rfl⟩ := hr
  rw [sp_A_id] at hW2
  refine nk_icmpeq (tgt := 1747) dL_law_1650 (by decide) (fun _ => ?_) (fun h1650 => by first | exact absurd (rfl) h1650 | exact absurd h1650 (rfl))
  refine nk_J.to ?_ rfl rfl (nk_o_comm hd3)
  exact kk _ _ _ _ _ _ _ _ _ hd3.symm hW2
set_option maxRecDepth 20000 in
theorem lo_40 {nm : String} {G : nk_EG} (hG : nk_GS G) {s0 L : Nat} {xs : Nat → Int32} (hsc : G.2.2.1 s0 = some (L, xs)) (hL : L ≤ 3072) {i : Nat} (hiL : i + 6 ≤ L) {ad : Nat → Nat} (hi : mInj ad) {K : nk_AH} {g : Nat → Nat} {o m b u l t : Nat} {A : Nat → Nat → Int32} {I : Nat → Int32} (hd : nk_dj K (mh ad A I)) (hW : cW K g o A I m b u l t) {bc bs : Nat} {Φ : Option Value → nk_AH → Prop} (kk : ∀ (K2 : nk_AH) (g2 : Nat → Nat) (A2 : Nat → Nat → Int32) (I2 : Nat → Int32) (m2 b2 u2 l2 t2 : Nat), nk_dj K2 (mh ad A2 I2) → cW K2 g2 o A2 I2 m2 b2 u2 l2 t2 → nk_J G (mL nm) 20 Φ bc bs 1747 [some (.ref s0), some (.ref o), some (.ref (ad 0)), some (.int (nI i))] [] (nk_o K2 (mh ad A2 I2))) : nk_J G (mL nm) 20 Φ (bc + 14) (bs + 240) 1655 [some (.ref s0), some (.ref o), some (.ref (ad 0)), some (.int (nI i))] [] (nk_o K (mh ad A I)) := by
  obtain ⟨fo, hfo⟩ := hW.o
  have hWn := hW.1
  refine nk_aload_n (i := 1) dL_law_1655 rfl rfl ?_
  refine nk_aload_n (i := 0) dL_law_1656 rfl rfl ?_
  refine nk_iload_n (i := 3) dL_law_1657 rfl rfl ?_
  refine nk_iconst (v := 1) dL_law_1658 (by decide) ?_
  refine nk_iadd dL_law_1659 ?_
  refine nk_tldN (j := i + 1) dL_law_1660 hsc (lw_ix i 1) (by omega) (by omega) ?_
  refine nk_aload_n (i := 0) dL_law_1661 rfl rfl ?_
  refine nk_iload_n (i := 3) dL_law_1662 rfl rfl ?_
  refine nk_iconst (v := 2) dL_law_1663 (by decide) ?_
  refine nk_iadd dL_law_1664 ?_
  refine nk_tldN (j := i + 2) dL_law_1665 hsc (lw_ix i 2) (by omega) (by omega) ?_
  refine nk_cV (bc' := bc) (bs' := bs) kL_180 ((s_X7_ask hG hW).frame hd) dL_law_1666 (lw_o hfo) rfl rfl (by decide) (Nat.le_of_ble_eq_true rfl) ⟨by omega, by omega⟩ (fun rr H2 hr => ?_)
  obtain ⟨K2, ⟨rfl, g2, m2, b2, u2, l2, t2, hW2⟩, hd2, rfl⟩ := hr
  obtain ⟨fm, hfm⟩ := lw_m hd2
  refine nk_aload_n (i := 2) dL_law_1669 rfl rfl ?_
  refine nk_aload_n (i := 0) dL_law_1670 rfl rfl ?_
  refine nk_iload_n (i := 3) dL_law_1671 rfl rfl ?_
  refine nk_iconst (v := 1) dL_law_1672 (by decide) ?_
  refine nk_iadd dL_law_1673 ?_
  refine nk_tldN (j := i + 1) dL_law_1674 hsc (lw_ix i 1) (by omega) (by omega) ?_
  refine nk_aload_n (i := 0) dL_law_1675 rfl rfl ?_
  refine nk_iload_n (i := 3) dL_law_1676 rfl rfl ?_
  refine nk_iconst (v := 2) dL_law_1677 (by decide) ?_
  refine nk_iadd dL_law_1678 ?_
  refine nk_tldN (j := i + 2) dL_law_1679 hsc (lw_ix i 2) (by omega) (by omega) ?_
  refine nk_cV (bc' := bc) (bs' := bs) kL_183 (((s_X8_ask hi hW.ms.1).frame hd2.symm).to (nk_o_comm hd2)) dL_law_1680 hfm rfl rfl (by decide) (Nat.le_of_ble_eq_true rfl) ⟨by omega, by omega⟩ (fun rr H2 hr => ?_)
  obtain ⟨H3, ⟨rfl, rfl⟩, hd3, rfl⟩ := hr
  refine nk_icmpeq (tgt := 1747) dL_law_1683 (by decide) (fun _ => ?_) (fun h1683 => by first | exact absurd (rfl) h1683 | exact absurd h1683 (rfl))
  refine nk_J.to ?_ rfl rfl (nk_o_comm hd3)
  exact kk _ _ _ _ _ _ _ _ _ hd3.symm hW2
set_option maxRecDepth 20000 in
theorem lo_41 {nm : String} {G : nk_EG} (hG : nk_GS G) {s0 L : Nat} {xs : Nat → Int32} (hsc : G.2.2.1 s0 = some (L, xs)) (hL : L ≤ 3072) {i : Nat} (hiL : i + 6 ≤ L) {ad : Nat → Nat} (hi : mInj ad) {K : nk_AH} {g : Nat → Nat} {o m b u l t : Nat} {A : Nat → Nat → Int32} {I : Nat → Int32} (hd : nk_dj K (mh ad A I)) (hW : cW K g o A I m b u l t) {bc bs : Nat} {Φ : Option Value → nk_AH → Prop} (kk : ∀ (K2 : nk_AH) (g2 : Nat → Nat) (A2 : Nat → Nat → Int32) (I2 : Nat → Int32) (m2 b2 u2 l2 t2 : Nat), nk_dj K2 (mh ad A2 I2) → cW K2 g2 o A2 I2 m2 b2 u2 l2 t2 → nk_J G (mL nm) 20 Φ bc bs 1747 [some (.ref s0), some (.ref o), some (.ref (ad 0)), some (.int (nI i))] [] (nk_o K2 (mh ad A2 I2))) : nk_J G (mL nm) 20 Φ (bc + 14) (bs + 240) 1688 [some (.ref s0), some (.ref o), some (.ref (ad 0)), some (.int (nI i))] [] (nk_o K (mh ad A I)) := by
  obtain ⟨fo, hfo⟩ := hW.o
  have hWn := hW.1
  refine nk_aload_n (i := 1) dL_law_1688 rfl rfl ?_
  refine nk_aload_n (i := 0) dL_law_1689 rfl rfl ?_
  refine nk_iload_n (i := 3) dL_law_1690 rfl rfl ?_
  refine nk_iconst (v := 1) dL_law_1691 (by decide) ?_
  refine nk_iadd dL_law_1692 ?_
  refine nk_tldN (j := i + 1) dL_law_1693 hsc (lw_ix i 1) (by omega) (by omega) ?_
  refine nk_cV (bc' := bc) (bs' := bs) kL_184 ((s_X7_trace hW).frame hd) dL_law_1694 (lw_o hfo) rfl rfl (by decide) (Nat.le_of_ble_eq_true rfl) ⟨by omega, by omega⟩ (fun rr H2 hr => ?_)
  obtain ⟨K2, ⟨rfl, rfl⟩, hd2, rfl⟩ := hr
  obtain ⟨fm, hfm⟩ := lw_m hd2
  refine nk_aload_n (i := 2) dL_law_1697 rfl rfl ?_
  refine nk_aload_n (i := 0) dL_law_1698 rfl rfl ?_
  refine nk_iload_n (i := 3) dL_law_1699 rfl rfl ?_
  refine nk_iconst (v := 1) dL_law_1700 (by decide) ?_
  refine nk_iadd dL_law_1701 ?_
  refine nk_tldN (j := i + 1) dL_law_1702 hsc (lw_ix i 1) (by omega) (by omega) ?_
  refine nk_cV (bc' := bc) (bs' := bs) kL_187 (((s_X8_trace hi hWn.2.2.2.2.2.1 hWn.2.2.2.2.2.2).frame hd2.symm).to (nk_o_comm hd2)) dL_law_1703 hfm rfl rfl (by decide) (Nat.le_of_ble_eq_true rfl) ⟨by omega, by omega⟩ (fun rr H2 hr => ?_)
  obtain ⟨H3, ⟨rfl, rfl⟩, hd3, rfl⟩ := hr
  refine nk_icmpeq (tgt := 1747) dL_law_1706 (by decide) (fun _ => ?_) (fun h1706 => by first | exact absurd (rfl) h1706 | exact absurd h1706 (rfl))
  refine nk_J.to ?_ rfl rfl (nk_o_comm hd3)
  exact kk _ _ _ _ _ _ _ _ _ hd3.symm hW
set_option maxRecDepth 20000 in
theorem lo_42 {nm : String} {G : nk_EG} (hG : nk_GS G) {s0 L : Nat} {xs : Nat → Int32} (hsc : G.2.2.1 s0 = some (L, xs)) (hL : L ≤ 3072) {i : Nat} (hiL : i + 6 ≤ L) {ad : Nat → Nat} (hi : mInj ad) {K : nk_AH} {g : Nat → Nat} {o m b u l t : Nat} {A : Nat → Nat → Int32} {I : Nat → Int32} (hd : nk_dj K (mh ad A I)) (hW : cW K g o A I m b u l t) {bc bs : Nat} {Φ : Option Value → nk_AH → Prop} (kk : ∀ (K2 : nk_AH) (g2 : Nat → Nat) (A2 : Nat → Nat → Int32) (I2 : Nat → Int32) (m2 b2 u2 l2 t2 : Nat), nk_dj K2 (mh ad A2 I2) → cW K2 g2 o A2 I2 m2 b2 u2 l2 t2 → nk_J G (mL nm) 20 Φ bc bs 1747 [some (.ref s0), some (.ref o), some (.ref (ad 0)), some (.int (nI i))] [] (nk_o K2 (mh ad A2 I2))) : nk_J G (mL nm) 20 Φ (bc + 14) (bs + 240) 1711 [some (.ref s0), some (.ref o), some (.ref (ad 0)), some (.int (nI i))] [] (nk_o K (mh ad A I)) := by
  obtain ⟨fo, hfo⟩ := hW.o
  have hWn := hW.1
  refine nk_aload_n (i := 1) dL_law_1711 rfl rfl ?_
  refine nk_aload_n (i := 0) dL_law_1712 rfl rfl ?_
  refine nk_iload_n (i := 3) dL_law_1713 rfl rfl ?_
  refine nk_iconst (v := 1) dL_law_1714 (by decide) ?_
  refine nk_iadd dL_law_1715 ?_
  refine nk_tldN (j := i + 1) dL_law_1716 hsc (lw_ix i 1) (by omega) (by omega) ?_
  refine nk_cV (bc' := bc) (bs' := bs) kL_188 ((s_X7_count hW).frame hd) dL_law_1717 (lw_o hfo) rfl rfl (by decide) (Nat.le_of_ble_eq_true rfl) ⟨by omega, by omega⟩ (fun rr H2 hr => ?_)
  obtain ⟨K2, ⟨rfl, rfl⟩, hd2, rfl⟩ := hr
  obtain ⟨fm, hfm⟩ := lw_m hd2
  refine nk_aload_n (i := 2) dL_law_1720 rfl rfl ?_
  refine nk_aload_n (i := 0) dL_law_1721 rfl rfl ?_
  refine nk_iload_n (i := 3) dL_law_1722 rfl rfl ?_
  refine nk_iconst (v := 1) dL_law_1723 (by decide) ?_
  refine nk_iadd dL_law_1724 ?_
  refine nk_tldN (j := i + 1) dL_law_1725 hsc (lw_ix i 1) (by omega) (by omega) ?_
  refine nk_cV (bc' := bc) (bs' := bs) kL_191 (((s_X8_count hi hW.ms.1).frame hd2.symm).to (nk_o_comm hd2)) dL_law_1726 hfm rfl rfl (by decide) (Nat.le_of_ble_eq_true rfl) ⟨by omega, by omega⟩ (fun rr H2 hr => ?_)
  obtain ⟨H3, ⟨rfl, rfl⟩, hd3, rfl⟩ := hr
  refine nk_icmpeq (tgt := 1747) dL_law_1729 (by decide) (fun _ => ?_) (fun h1729 => by first | exact absurd (rfl) h1729 | exact absurd h1729 (rfl))
  refine nk_J.to ?_ rfl rfl (nk_o_comm hd3)
  exact kk _ _ _ _ _ _ _ _ _ hd3.symm hW
set_option maxRecDepth 20000 in
theorem lo_43 {nm : String} {G : nk_EG} (hG : nk_GS G) {s0 L : Nat} {xs : Nat → Int32} (hsc : G.2.2.1 s0 = some (L, xs)) (hL : L ≤ 3072) {i : Nat} (hiL : i + 6 ≤ L) {ad : Nat → Nat} (hi : mInj ad) {K : nk_AH} {g : Nat → Nat} {o m b u l t : Nat} {A : Nat → Nat → Int32} {I : Nat → Int32} (hd : nk_dj K (mh ad A I)) (hW : cW K g o A I m b u l t) {bc bs : Nat} {Φ : Option Value → nk_AH → Prop} (kk : ∀ (K2 : nk_AH) (g2 : Nat → Nat) (A2 : Nat → Nat → Int32) (I2 : Nat → Int32) (m2 b2 u2 l2 t2 : Nat), nk_dj K2 (mh ad A2 I2) → cW K2 g2 o A2 I2 m2 b2 u2 l2 t2 → nk_J G (mL nm) 20 Φ bc bs 1747 [some (.ref s0), some (.ref o), some (.ref (ad 0)), some (.int (nI i))] [] (nk_o K2 (mh ad A2 I2))) : nk_J G (mL nm) 20 Φ (bc + 14) (bs + 240) 1734 [some (.ref s0), some (.ref o), some (.ref (ad 0)), some (.int (nI i))] [] (nk_o K (mh ad A I)) := by
  obtain ⟨fo, hfo⟩ := hW.o
  have hWn := hW.1
  refine nk_aload_n (i := 1) dL_law_1734 rfl rfl ?_
  refine nk_cV (bc' := bc) (bs' := bs) kL_192 ((s_X7_status hW).frame hd) dL_law_1735 (lw_o hfo) rfl rfl (by decide) (Nat.le_of_ble_eq_true rfl) ⟨by omega, by omega⟩ (fun rr H2 hr => ?_)
  obtain ⟨K2, ⟨rfl, rfl⟩, hd2, rfl⟩ := hr
  obtain ⟨fm, hfm⟩ := lw_m hd2
  refine nk_aload_n (i := 2) dL_law_1738 rfl rfl ?_
  refine nk_cV (bc' := bc) (bs' := bs) kL_195 (((s_X8_status hi).frame hd2.symm).to (nk_o_comm hd2)) dL_law_1739 hfm rfl rfl (by decide) (Nat.le_of_ble_eq_true rfl) ⟨by omega, by omega⟩ (fun rr H2 hr => ?_)
  obtain ⟨H3, ⟨rfl, rfl⟩, hd3, rfl⟩ := hr
  refine nk_icmpeq (tgt := 1747) dL_law_1742 (by decide) (fun _ => ?_) (fun h1742 => by first | exact absurd (rfl) h1742 | exact absurd h1742 (rfl))
  refine nk_J.to ?_ rfl rfl (nk_o_comm hd3)
  exact kk _ _ _ _ _ _ _ _ _ hd3.symm hW

/-! the law: calls -/
set_option maxRecDepth 20000 in
theorem lo_14 {nm : String} {G : nk_EG} (hG : nk_GS G) {s0 L : Nat} {xs : Nat → Int32} (hsc : G.2.2.1 s0 = some (L, xs)) (hL : L ≤ 3072) {i : Nat} (hiL : i + 6 ≤ L) {ad : Nat → Nat} (hi : mInj ad) {K : nk_AH} {g : Nat → Nat} {o m b u l t : Nat} {A : Nat → Nat → Int32} {I : Nat → Int32} (hd : nk_dj K (mh ad A I)) (hW : cW K g o A I m b u l t) {bc bs : Nat} {Φ : Option Value → nk_AH → Prop} (kk : ∀ (K2 : nk_AH) (g2 : Nat → Nat) (A2 : Nat → Nat → Int32) (I2 : Nat → Int32) (m2 b2 u2 l2 t2 : Nat), nk_dj K2 (mh ad A2 I2) → cW K2 g2 o A2 I2 m2 b2 u2 l2 t2 → nk_J G (mL nm) 20 Φ bc bs 1747 [some (.ref s0), some (.ref o), some (.ref (ad 0)), some (.int (nI i))] [] (nk_o K2 (mh ad A2 I2))) : nk_J G (mL nm) 20 Φ (bc + 14) (bs + 240) 706 [some (.ref s0), some (.ref o), some (.ref (ad 0)), some (.int (nI i))] [] (nk_o K (mh ad A I)) := by
  obtain ⟨fo, hfo⟩ := hW.o
  have hWn := hW.1
  refine nk_aload_n (i := 1) dL_law_706 rfl rfl ?_
  refine nk_aload_n (i := 0) dL_law_707 rfl rfl ?_
  refine nk_iload_n (i := 3) dL_law_708 rfl rfl ?_
  refine nk_iconst (v := 1) dL_law_709 (by decide) ?_
  refine nk_iadd dL_law_710 ?_
  refine nk_tldN (j := i + 1) dL_law_711 hsc (lw_ix i 1) (by omega) (by omega) ?_
  refine nk_aload_n (i := 0) dL_law_712 rfl rfl ?_
  refine nk_iload_n (i := 3) dL_law_713 rfl rfl ?_
  refine nk_iconst (v := 2) dL_law_714 (by decide) ?_
  refine nk_iadd dL_law_715 ?_
  refine nk_tldN (j := i + 2) dL_law_716 hsc (lw_ix i 2) (by omega) (by omega) ?_
  refine nk_cV (bc' := bc) (bs' := bs) kL_75 ((s_X7_contains hW.V).frame hd) dL_law_717 (lw_o hfo) rfl rfl (by decide) (Nat.le_of_ble_eq_true rfl) ⟨by omega, by omega⟩ (fun rr H2 hr => ?_)
  obtain ⟨K2, ⟨rfl, rfl⟩, hd2, rfl⟩ := hr
  obtain ⟨fm, hfm⟩ := lw_m hd2
  refine nk_aload_n (i := 2) dL_law_720 rfl rfl ?_
  refine nk_aload_n (i := 0) dL_law_721 rfl rfl ?_
  refine nk_iload_n (i := 3) dL_law_722 rfl rfl ?_
  refine nk_iconst (v := 1) dL_law_723 (by decide) ?_
  refine nk_iadd dL_law_724 ?_
  refine nk_tldN (j := i + 1) dL_law_725 hsc (lw_ix i 1) (by omega) (by omega) ?_
  refine nk_aload_n (i := 0) dL_law_726 rfl rfl ?_
  refine nk_iload_n (i := 3) dL_law_727 rfl rfl ?_
  refine nk_iconst (v := 2) dL_law_728 (by decide) ?_
  refine nk_iadd dL_law_729 ?_
  refine nk_tldN (j := i + 2) dL_law_730 hsc (lw_ix i 2) (by omega) (by omega) ?_
  refine nk_cV (bc' := bc) (bs' := bs) kL_78 (((s_X8_contains hi hW.ms.1).frame hd2.symm).to (nk_o_comm hd2)) dL_law_731 hfm rfl rfl (by decide) (Nat.le_of_ble_eq_true rfl) ⟨by omega, by omega⟩ (fun rr H2 hr => ?_)
  obtain ⟨H3, ⟨rfl, rfl⟩, hd3, rfl⟩ := hr
  refine nk_icmpeq (tgt := 1747) dL_law_734 (by decide) (fun _ => ?_) (fun h734 => by first | exact absurd (rfl) h734 | exact absurd h734 (rfl))
  refine nk_J.to ?_ rfl rfl (nk_o_comm hd3)
  exact kk _ _ _ _ _ _ _ _ _ hd3.symm hW
set_option maxRecDepth 20000 in
theorem lo_15 {nm : String} {G : nk_EG} (hG : nk_GS G) {s0 L : Nat} {xs : Nat → Int32} (hsc : G.2.2.1 s0 = some (L, xs)) (hL : L ≤ 3072) {i : Nat} (hiL : i + 6 ≤ L) {ad : Nat → Nat} (hi : mInj ad) {K : nk_AH} {g : Nat → Nat} {o m b u l t : Nat} {A : Nat → Nat → Int32} {I : Nat → Int32} (hd : nk_dj K (mh ad A I)) (hW : cW K g o A I m b u l t) {bc bs : Nat} {Φ : Option Value → nk_AH → Prop} (kk : ∀ (K2 : nk_AH) (g2 : Nat → Nat) (A2 : Nat → Nat → Int32) (I2 : Nat → Int32) (m2 b2 u2 l2 t2 : Nat), nk_dj K2 (mh ad A2 I2) → cW K2 g2 o A2 I2 m2 b2 u2 l2 t2 → nk_J G (mL nm) 20 Φ bc bs 1747 [some (.ref s0), some (.ref o), some (.ref (ad 0)), some (.int (nI i))] [] (nk_o K2 (mh ad A2 I2))) : nk_J G (mL nm) 20 Φ (bc + 14) (bs + 240) 739 [some (.ref s0), some (.ref o), some (.ref (ad 0)), some (.int (nI i))] [] (nk_o K (mh ad A I)) := by
  obtain ⟨fo, hfo⟩ := hW.o
  have hWn := hW.1
  refine nk_aload_n (i := 1) dL_law_739 rfl rfl ?_
  refine nk_aload_n (i := 0) dL_law_740 rfl rfl ?_
  refine nk_iload_n (i := 3) dL_law_741 rfl rfl ?_
  refine nk_iconst (v := 1) dL_law_742 (by decide) ?_
  refine nk_iadd dL_law_743 ?_
  refine nk_tldN (j := i + 1) dL_law_744 hsc (lw_ix i 1) (by omega) (by omega) ?_
  refine nk_cV (bc' := bc) (bs' := bs) kL_79 ((s_X7_keys hW.V).frame hd) dL_law_745 (lw_o hfo) rfl rfl (by decide) (Nat.le_of_ble_eq_true rfl) ⟨by omega, by omega⟩ (fun rr H2 hr => ?_)
  obtain ⟨K2, ⟨rfl, rfl⟩, hd2, rfl⟩ := hr
  obtain ⟨fm, hfm⟩ := lw_m hd2
  refine nk_aload_n (i := 2) dL_law_748 rfl rfl ?_
  refine nk_aload_n (i := 0) dL_law_749 rfl rfl ?_
  refine nk_iload_n (i := 3) dL_law_750 rfl rfl ?_
  refine nk_iconst (v := 1) dL_law_751 (by decide) ?_
  refine nk_iadd dL_law_752 ?_
  refine nk_tldN (j := i + 1) dL_law_753 hsc (lw_ix i 1) (by omega) (by omega) ?_
  refine nk_cV (bc' := bc) (bs' := bs) kL_82 (((s_X8_keys hi hW.ms.1).frame hd2.symm).to (nk_o_comm hd2)) dL_law_754 hfm rfl rfl (by decide) (Nat.le_of_ble_eq_true rfl) ⟨by omega, by omega⟩ (fun rr H2 hr => ?_)
  obtain ⟨H3, ⟨rfl, rfl⟩, hd3, rfl⟩ := hr
  refine nk_icmpeq (tgt := 1747) dL_law_757 (by decide) (fun _ => ?_) (fun h757 => by first | exact absurd (rfl) h757 | exact absurd h757 (rfl))
  refine nk_J.to ?_ rfl rfl (nk_o_comm hd3)
  exact kk _ _ _ _ _ _ _ _ _ hd3.symm hW
set_option maxRecDepth 20000 in
theorem lo_16 {nm : String} {G : nk_EG} (hG : nk_GS G) {s0 L : Nat} {xs : Nat → Int32} (hsc : G.2.2.1 s0 = some (L, xs)) (hL : L ≤ 3072) {i : Nat} (hiL : i + 6 ≤ L) {ad : Nat → Nat} (hi : mInj ad) {K : nk_AH} {g : Nat → Nat} {o m b u l t : Nat} {A : Nat → Nat → Int32} {I : Nat → Int32} (hd : nk_dj K (mh ad A I)) (hW : cW K g o A I m b u l t) {bc bs : Nat} {Φ : Option Value → nk_AH → Prop} (kk : ∀ (K2 : nk_AH) (g2 : Nat → Nat) (A2 : Nat → Nat → Int32) (I2 : Nat → Int32) (m2 b2 u2 l2 t2 : Nat), nk_dj K2 (mh ad A2 I2) → cW K2 g2 o A2 I2 m2 b2 u2 l2 t2 → nk_J G (mL nm) 20 Φ bc bs 1747 [some (.ref s0), some (.ref o), some (.ref (ad 0)), some (.int (nI i))] [] (nk_o K2 (mh ad A2 I2))) : nk_J G (mL nm) 20 Φ (bc + 14) (bs + 240) 762 [some (.ref s0), some (.ref o), some (.ref (ad 0)), some (.int (nI i))] [] (nk_o K (mh ad A I)) := by
  obtain ⟨fo, hfo⟩ := hW.o
  have hWn := hW.1
  refine nk_aload_n (i := 1) dL_law_762 rfl rfl ?_
  refine nk_aload_n (i := 0) dL_law_763 rfl rfl ?_
  refine nk_iload_n (i := 3) dL_law_764 rfl rfl ?_
  refine nk_iconst (v := 1) dL_law_765 (by decide) ?_
  refine nk_iadd dL_law_766 ?_
  refine nk_tldN (j := i + 1) dL_law_767 hsc (lw_ix i 1) (by omega) (by omega) ?_
  refine nk_aload_n (i := 0) dL_law_768 rfl rfl ?_
  refine nk_iload_n (i := 3) dL_law_769 rfl rfl ?_
  refine nk_iconst (v := 2) dL_law_770 (by decide) ?_
  refine nk_iadd dL_law_771 ?_
  refine nk_tldN (j := i + 2) dL_law_772 hsc (lw_ix i 2) (by omega) (by omega) ?_
  refine nk_cV (bc' := bc) (bs' := bs) kL_83 ((s_X7_end hW.V).frame hd) dL_law_773 (lw_o hfo) rfl rfl (by decide) (Nat.le_of_ble_eq_true rfl) ⟨by omega, by omega⟩ (fun rr H2 hr => ?_)
  obtain ⟨K2, ⟨rfl, rfl⟩, hd2, rfl⟩ := hr
  obtain ⟨fm, hfm⟩ := lw_m hd2
  refine nk_aload_n (i := 2) dL_law_776 rfl rfl ?_
  refine nk_aload_n (i := 0) dL_law_777 rfl rfl ?_
  refine nk_iload_n (i := 3) dL_law_778 rfl rfl ?_
  refine nk_iconst (v := 1) dL_law_779 (by decide) ?_
  refine nk_iadd dL_law_780 ?_
  refine nk_tldN (j := i + 1) dL_law_781 hsc (lw_ix i 1) (by omega) (by omega) ?_
  refine nk_aload_n (i := 0) dL_law_782 rfl rfl ?_
  refine nk_iload_n (i := 3) dL_law_783 rfl rfl ?_
  refine nk_iconst (v := 2) dL_law_784 (by decide) ?_
  refine nk_iadd dL_law_785 ?_
  refine nk_tldN (j := i + 2) dL_law_786 hsc (lw_ix i 2) (by omega) (by omega) ?_
  refine nk_cV (bc' := bc) (bs' := bs) kL_86 (((s_X8_end hi hW.ms.1).frame hd2.symm).to (nk_o_comm hd2)) dL_law_787 hfm rfl rfl (by decide) (Nat.le_of_ble_eq_true rfl) ⟨by omega, by omega⟩ (fun rr H2 hr => ?_)
  obtain ⟨H3, ⟨rfl, rfl⟩, hd3, rfl⟩ := hr
  refine nk_icmpeq (tgt := 1747) dL_law_790 (by decide) (fun _ => ?_) (fun h790 => by first | exact absurd (rfl) h790 | exact absurd h790 (rfl))
  refine nk_J.to ?_ rfl rfl (nk_o_comm hd3)
  exact kk _ _ _ _ _ _ _ _ _ hd3.symm hW
set_option maxRecDepth 20000 in
theorem lo_17 {nm : String} {G : nk_EG} (hG : nk_GS G) {s0 L : Nat} {xs : Nat → Int32} (hsc : G.2.2.1 s0 = some (L, xs)) (hL : L ≤ 3072) {i : Nat} (hiL : i + 6 ≤ L) {ad : Nat → Nat} (hi : mInj ad) {K : nk_AH} {g : Nat → Nat} {o m b u l t : Nat} {A : Nat → Nat → Int32} {I : Nat → Int32} (hd : nk_dj K (mh ad A I)) (hW : cW K g o A I m b u l t) {bc bs : Nat} {Φ : Option Value → nk_AH → Prop} (kk : ∀ (K2 : nk_AH) (g2 : Nat → Nat) (A2 : Nat → Nat → Int32) (I2 : Nat → Int32) (m2 b2 u2 l2 t2 : Nat), nk_dj K2 (mh ad A2 I2) → cW K2 g2 o A2 I2 m2 b2 u2 l2 t2 → nk_J G (mL nm) 20 Φ bc bs 1747 [some (.ref s0), some (.ref o), some (.ref (ad 0)), some (.int (nI i))] [] (nk_o K2 (mh ad A2 I2))) : nk_J G (mL nm) 20 Φ (bc + 14) (bs + 240) 795 [some (.ref s0), some (.ref o), some (.ref (ad 0)), some (.int (nI i))] [] (nk_o K (mh ad A I)) := by
  obtain ⟨fo, hfo⟩ := hW.o
  have hWn := hW.1
  refine nk_aload_n (i := 1) dL_law_795 rfl rfl ?_
  refine nk_aload_n (i := 0) dL_law_796 rfl rfl ?_
  refine nk_iload_n (i := 3) dL_law_797 rfl rfl ?_
  refine nk_iconst (v := 1) dL_law_798 (by decide) ?_
  refine nk_iadd dL_law_799 ?_
  refine nk_tldN (j := i + 1) dL_law_800 hsc (lw_ix i 1) (by omega) (by omega) ?_
  refine nk_aload_n (i := 0) dL_law_801 rfl rfl ?_
  refine nk_iload_n (i := 3) dL_law_802 rfl rfl ?_
  refine nk_iconst (v := 2) dL_law_803 (by decide) ?_
  refine nk_iadd dL_law_804 ?_
  refine nk_tldN (j := i + 2) dL_law_805 hsc (lw_ix i 2) (by omega) (by omega) ?_
  refine nk_cV (bc' := bc) (bs' := bs) kL_87 ((s_X7_next hW.V).frame hd) dL_law_806 (lw_o hfo) rfl rfl (by decide) (Nat.le_of_ble_eq_true rfl) ⟨by omega, by omega⟩ (fun rr H2 hr => ?_)
  obtain ⟨K2, ⟨rfl, rfl⟩, hd2, rfl⟩ := hr
  obtain ⟨fm, hfm⟩ := lw_m hd2
  refine nk_aload_n (i := 2) dL_law_809 rfl rfl ?_
  refine nk_aload_n (i := 0) dL_law_810 rfl rfl ?_
  refine nk_iload_n (i := 3) dL_law_811 rfl rfl ?_
  refine nk_iconst (v := 1) dL_law_812 (by decide) ?_
  refine nk_iadd dL_law_813 ?_
  refine nk_tldN (j := i + 1) dL_law_814 hsc (lw_ix i 1) (by omega) (by omega) ?_
  refine nk_aload_n (i := 0) dL_law_815 rfl rfl ?_
  refine nk_iload_n (i := 3) dL_law_816 rfl rfl ?_
  refine nk_iconst (v := 2) dL_law_817 (by decide) ?_
  refine nk_iadd dL_law_818 ?_
  refine nk_tldN (j := i + 2) dL_law_819 hsc (lw_ix i 2) (by omega) (by omega) ?_
  refine nk_cV (bc' := bc) (bs' := bs) kL_90 (((s_X8_next hi hW.ms.1).frame hd2.symm).to (nk_o_comm hd2)) dL_law_820 hfm rfl rfl (by decide) (Nat.le_of_ble_eq_true rfl) ⟨by omega, by omega⟩ (fun rr H2 hr => ?_)
  obtain ⟨H3, ⟨rfl, rfl⟩, hd3, rfl⟩ := hr
  refine nk_icmpeq (tgt := 1747) dL_law_823 (by decide) (fun _ => ?_) (fun h823 => by first | exact absurd (rfl) h823 | exact absurd h823 (rfl))
  refine nk_J.to ?_ rfl rfl (nk_o_comm hd3)
  exact kk _ _ _ _ _ _ _ _ _ hd3.symm hW
set_option maxRecDepth 20000 in
theorem lo_18 {nm : String} {G : nk_EG} (hG : nk_GS G) {s0 L : Nat} {xs : Nat → Int32} (hsc : G.2.2.1 s0 = some (L, xs)) (hL : L ≤ 3072) {i : Nat} (hiL : i + 6 ≤ L) {ad : Nat → Nat} (hi : mInj ad) {K : nk_AH} {g : Nat → Nat} {o m b u l t : Nat} {A : Nat → Nat → Int32} {I : Nat → Int32} (hd : nk_dj K (mh ad A I)) (hW : cW K g o A I m b u l t) {bc bs : Nat} {Φ : Option Value → nk_AH → Prop} (kk : ∀ (K2 : nk_AH) (g2 : Nat → Nat) (A2 : Nat → Nat → Int32) (I2 : Nat → Int32) (m2 b2 u2 l2 t2 : Nat), nk_dj K2 (mh ad A2 I2) → cW K2 g2 o A2 I2 m2 b2 u2 l2 t2 → nk_J G (mL nm) 20 Φ bc bs 1747 [some (.ref s0), some (.ref o), some (.ref (ad 0)), some (.int (nI i))] [] (nk_o K2 (mh ad A2 I2))) : nk_J G (mL nm) 20 Φ (bc + 14) (bs + 240) 828 [some (.ref s0), some (.ref o), some (.ref (ad 0)), some (.int (nI i))] [] (nk_o K (mh ad A I)) := by
  obtain ⟨fo, hfo⟩ := hW.o
  have hWn := hW.1
  refine nk_aload_n (i := 1) dL_law_828 rfl rfl ?_
  refine nk_aload_n (i := 0) dL_law_829 rfl rfl ?_
  refine nk_iload_n (i := 3) dL_law_830 rfl rfl ?_
  refine nk_iconst (v := 1) dL_law_831 (by decide) ?_
  refine nk_iadd dL_law_832 ?_
  refine nk_tldN (j := i + 1) dL_law_833 hsc (lw_ix i 1) (by omega) (by omega) ?_
  refine nk_aload_n (i := 0) dL_law_834 rfl rfl ?_
  refine nk_iload_n (i := 3) dL_law_835 rfl rfl ?_
  refine nk_iconst (v := 2) dL_law_836 (by decide) ?_
  refine nk_iadd dL_law_837 ?_
  refine nk_tldN (j := i + 2) dL_law_838 hsc (lw_ix i 2) (by omega) (by omega) ?_
  refine nk_aload_n (i := 0) dL_law_839 rfl rfl ?_
  refine nk_iload_n (i := 3) dL_law_840 rfl rfl ?_
  refine nk_iconst (v := 3) dL_law_841 (by decide) ?_
  refine nk_iadd dL_law_842 ?_
  refine nk_tldN (j := i + 3) dL_law_843 hsc (lw_ix i 3) (by omega) (by omega) ?_
  refine nk_cV (bc' := bc) (bs' := bs) kL_91 ((s_X7_beside hW.V).frame hd) dL_law_844 (lw_o hfo) rfl rfl (by decide) (Nat.le_of_ble_eq_true rfl) ⟨by omega, by omega⟩ (fun rr H2 hr => ?_)
  obtain ⟨K2, ⟨rfl, rfl⟩, hd2, rfl⟩ := hr
  obtain ⟨fm, hfm⟩ := lw_m hd2
  refine nk_aload_n (i := 2) dL_law_847 rfl rfl ?_
  refine nk_aload_n (i := 0) dL_law_848 rfl rfl ?_
  refine nk_iload_n (i := 3) dL_law_849 rfl rfl ?_
  refine nk_iconst (v := 1) dL_law_850 (by decide) ?_
  refine nk_iadd dL_law_851 ?_
  refine nk_tldN (j := i + 1) dL_law_852 hsc (lw_ix i 1) (by omega) (by omega) ?_
  refine nk_aload_n (i := 0) dL_law_853 rfl rfl ?_
  refine nk_iload_n (i := 3) dL_law_854 rfl rfl ?_
  refine nk_iconst (v := 2) dL_law_855 (by decide) ?_
  refine nk_iadd dL_law_856 ?_
  refine nk_tldN (j := i + 2) dL_law_857 hsc (lw_ix i 2) (by omega) (by omega) ?_
  refine nk_aload_n (i := 0) dL_law_858 rfl rfl ?_
  refine nk_iload_n (i := 3) dL_law_859 rfl rfl ?_
  refine nk_iconst (v := 3) dL_law_860 (by decide) ?_
  refine nk_iadd dL_law_861 ?_
  refine nk_tldN (j := i + 3) dL_law_862 hsc (lw_ix i 3) (by omega) (by omega) ?_
  refine nk_cV (bc' := bc) (bs' := bs) kL_94 (((s_X8_beside hi hW.ms.1).frame hd2.symm).to (nk_o_comm hd2)) dL_law_863 hfm rfl rfl (by decide) (Nat.le_of_ble_eq_true rfl) ⟨by omega, by omega⟩ (fun rr H2 hr => ?_)
  obtain ⟨H3, ⟨rfl, rfl⟩, hd3, rfl⟩ := hr
  refine nk_icmpeq (tgt := 1747) dL_law_866 (by decide) (fun _ => ?_) (fun h866 => by first | exact absurd (rfl) h866 | exact absurd h866 (rfl))
  refine nk_J.to ?_ rfl rfl (nk_o_comm hd3)
  exact kk _ _ _ _ _ _ _ _ _ hd3.symm hW
set_option maxRecDepth 20000 in
theorem lo_19 {nm : String} {G : nk_EG} (hG : nk_GS G) {s0 L : Nat} {xs : Nat → Int32} (hsc : G.2.2.1 s0 = some (L, xs)) (hL : L ≤ 3072) {i : Nat} (hiL : i + 6 ≤ L) {ad : Nat → Nat} (hi : mInj ad) {K : nk_AH} {g : Nat → Nat} {o m b u l t : Nat} {A : Nat → Nat → Int32} {I : Nat → Int32} (hd : nk_dj K (mh ad A I)) (hW : cW K g o A I m b u l t) {bc bs : Nat} {Φ : Option Value → nk_AH → Prop} (kk : ∀ (K2 : nk_AH) (g2 : Nat → Nat) (A2 : Nat → Nat → Int32) (I2 : Nat → Int32) (m2 b2 u2 l2 t2 : Nat), nk_dj K2 (mh ad A2 I2) → cW K2 g2 o A2 I2 m2 b2 u2 l2 t2 → nk_J G (mL nm) 20 Φ bc bs 1747 [some (.ref s0), some (.ref o), some (.ref (ad 0)), some (.int (nI i))] [] (nk_o K2 (mh ad A2 I2))) : nk_J G (mL nm) 20 Φ (bc + 14) (bs + 240) 871 [some (.ref s0), some (.ref o), some (.ref (ad 0)), some (.int (nI i))] [] (nk_o K (mh ad A I)) := by
  obtain ⟨fo, hfo⟩ := hW.o
  have hWn := hW.1
  refine nk_aload_n (i := 1) dL_law_871 rfl rfl ?_
  refine nk_aload_n (i := 0) dL_law_872 rfl rfl ?_
  refine nk_iload_n (i := 3) dL_law_873 rfl rfl ?_
  refine nk_iconst (v := 1) dL_law_874 (by decide) ?_
  refine nk_iadd dL_law_875 ?_
  refine nk_tldN (j := i + 1) dL_law_876 hsc (lw_ix i 1) (by omega) (by omega) ?_
  refine nk_aload_n (i := 0) dL_law_877 rfl rfl ?_
  refine nk_iload_n (i := 3) dL_law_878 rfl rfl ?_
  refine nk_iconst (v := 2) dL_law_879 (by decide) ?_
  refine nk_iadd dL_law_880 ?_
  refine nk_tldN (j := i + 2) dL_law_881 hsc (lw_ix i 2) (by omega) (by omega) ?_
  refine nk_cV (bc' := bc) (bs' := bs) kL_95 ((s_X7_steps hW.V).frame hd) dL_law_882 (lw_o hfo) rfl rfl (by decide) (Nat.le_of_ble_eq_true rfl) ⟨by omega, by omega⟩ (fun rr H2 hr => ?_)
  obtain ⟨K2, ⟨rfl, rfl⟩, hd2, rfl⟩ := hr
  obtain ⟨fm, hfm⟩ := lw_m hd2
  refine nk_aload_n (i := 2) dL_law_885 rfl rfl ?_
  refine nk_aload_n (i := 0) dL_law_886 rfl rfl ?_
  refine nk_iload_n (i := 3) dL_law_887 rfl rfl ?_
  refine nk_iconst (v := 1) dL_law_888 (by decide) ?_
  refine nk_iadd dL_law_889 ?_
  refine nk_tldN (j := i + 1) dL_law_890 hsc (lw_ix i 1) (by omega) (by omega) ?_
  refine nk_aload_n (i := 0) dL_law_891 rfl rfl ?_
  refine nk_iload_n (i := 3) dL_law_892 rfl rfl ?_
  refine nk_iconst (v := 2) dL_law_893 (by decide) ?_
  refine nk_iadd dL_law_894 ?_
  refine nk_tldN (j := i + 2) dL_law_895 hsc (lw_ix i 2) (by omega) (by omega) ?_
  refine nk_cV (bc' := bc) (bs' := bs) kL_98 (((s_X8_steps hi hW.ms.1).frame hd2.symm).to (nk_o_comm hd2)) dL_law_896 hfm rfl rfl (by decide) (Nat.le_of_ble_eq_true rfl) ⟨by omega, by omega⟩ (fun rr H2 hr => ?_)
  obtain ⟨H3, ⟨rfl, rfl⟩, hd3, rfl⟩ := hr
  refine nk_icmpeq (tgt := 1747) dL_law_899 (by decide) (fun _ => ?_) (fun h899 => by first | exact absurd (rfl) h899 | exact absurd h899 (rfl))
  refine nk_J.to ?_ rfl rfl (nk_o_comm hd3)
  exact kk _ _ _ _ _ _ _ _ _ hd3.symm hW
set_option maxRecDepth 20000 in
theorem lo_20 {nm : String} {G : nk_EG} (hG : nk_GS G) {s0 L : Nat} {xs : Nat → Int32} (hsc : G.2.2.1 s0 = some (L, xs)) (hL : L ≤ 3072) {i : Nat} (hiL : i + 6 ≤ L) {ad : Nat → Nat} (hi : mInj ad) {K : nk_AH} {g : Nat → Nat} {o m b u l t : Nat} {A : Nat → Nat → Int32} {I : Nat → Int32} (hd : nk_dj K (mh ad A I)) (hW : cW K g o A I m b u l t) {bc bs : Nat} {Φ : Option Value → nk_AH → Prop} (kk : ∀ (K2 : nk_AH) (g2 : Nat → Nat) (A2 : Nat → Nat → Int32) (I2 : Nat → Int32) (m2 b2 u2 l2 t2 : Nat), nk_dj K2 (mh ad A2 I2) → cW K2 g2 o A2 I2 m2 b2 u2 l2 t2 → nk_J G (mL nm) 20 Φ bc bs 1747 [some (.ref s0), some (.ref o), some (.ref (ad 0)), some (.int (nI i))] [] (nk_o K2 (mh ad A2 I2))) : nk_J G (mL nm) 20 Φ (bc + 14) (bs + 240) 904 [some (.ref s0), some (.ref o), some (.ref (ad 0)), some (.int (nI i))] [] (nk_o K (mh ad A I)) := by
  obtain ⟨fo, hfo⟩ := hW.o
  have hWn := hW.1
  refine nk_aload_n (i := 1) dL_law_904 rfl rfl ?_
  refine nk_aload_n (i := 0) dL_law_905 rfl rfl ?_
  refine nk_iload_n (i := 3) dL_law_906 rfl rfl ?_
  refine nk_iconst (v := 1) dL_law_907 (by decide) ?_
  refine nk_iadd dL_law_908 ?_
  refine nk_tldN (j := i + 1) dL_law_909 hsc (lw_ix i 1) (by omega) (by omega) ?_
  refine nk_aload_n (i := 0) dL_law_910 rfl rfl ?_
  refine nk_iload_n (i := 3) dL_law_911 rfl rfl ?_
  refine nk_iconst (v := 2) dL_law_912 (by decide) ?_
  refine nk_iadd dL_law_913 ?_
  refine nk_tldN (j := i + 2) dL_law_914 hsc (lw_ix i 2) (by omega) (by omega) ?_
  refine nk_cV (bc' := bc) (bs' := bs) kL_99 ((s_X7_tree hW.V).frame hd) dL_law_915 (lw_o hfo) rfl rfl (by decide) (Nat.le_of_ble_eq_true rfl) ⟨by omega, by omega⟩ (fun rr H2 hr => ?_)
  obtain ⟨K2, ⟨rfl, rfl⟩, hd2, rfl⟩ := hr
  obtain ⟨fm, hfm⟩ := lw_m hd2
  refine nk_aload_n (i := 2) dL_law_918 rfl rfl ?_
  refine nk_aload_n (i := 0) dL_law_919 rfl rfl ?_
  refine nk_iload_n (i := 3) dL_law_920 rfl rfl ?_
  refine nk_iconst (v := 1) dL_law_921 (by decide) ?_
  refine nk_iadd dL_law_922 ?_
  refine nk_tldN (j := i + 1) dL_law_923 hsc (lw_ix i 1) (by omega) (by omega) ?_
  refine nk_aload_n (i := 0) dL_law_924 rfl rfl ?_
  refine nk_iload_n (i := 3) dL_law_925 rfl rfl ?_
  refine nk_iconst (v := 2) dL_law_926 (by decide) ?_
  refine nk_iadd dL_law_927 ?_
  refine nk_tldN (j := i + 2) dL_law_928 hsc (lw_ix i 2) (by omega) (by omega) ?_
  refine nk_cV (bc' := bc) (bs' := bs) kL_102 (((s_X8_tree hi hW.ms.1).frame hd2.symm).to (nk_o_comm hd2)) dL_law_929 hfm rfl rfl (by decide) (Nat.le_of_ble_eq_true rfl) ⟨by omega, by omega⟩ (fun rr H2 hr => ?_)
  obtain ⟨H3, ⟨rfl, rfl⟩, hd3, rfl⟩ := hr
  refine nk_icmpeq (tgt := 1747) dL_law_932 (by decide) (fun _ => ?_) (fun h932 => by first | exact absurd (rfl) h932 | exact absurd h932 (rfl))
  refine nk_J.to ?_ rfl rfl (nk_o_comm hd3)
  exact kk _ _ _ _ _ _ _ _ _ hd3.symm hW
set_option maxRecDepth 20000 in
theorem lo_21 {nm : String} {G : nk_EG} (hG : nk_GS G) {s0 L : Nat} {xs : Nat → Int32} (hsc : G.2.2.1 s0 = some (L, xs)) (hL : L ≤ 3072) {i : Nat} (hiL : i + 6 ≤ L) {ad : Nat → Nat} (hi : mInj ad) {K : nk_AH} {g : Nat → Nat} {o m b u l t : Nat} {A : Nat → Nat → Int32} {I : Nat → Int32} (hd : nk_dj K (mh ad A I)) (hW : cW K g o A I m b u l t) {bc bs : Nat} {Φ : Option Value → nk_AH → Prop} (kk : ∀ (K2 : nk_AH) (g2 : Nat → Nat) (A2 : Nat → Nat → Int32) (I2 : Nat → Int32) (m2 b2 u2 l2 t2 : Nat), nk_dj K2 (mh ad A2 I2) → cW K2 g2 o A2 I2 m2 b2 u2 l2 t2 → nk_J G (mL nm) 20 Φ bc bs 1747 [some (.ref s0), some (.ref o), some (.ref (ad 0)), some (.int (nI i))] [] (nk_o K2 (mh ad A2 I2))) : nk_J G (mL nm) 20 Φ (bc + 14) (bs + 240) 937 [some (.ref s0), some (.ref o), some (.ref (ad 0)), some (.int (nI i))] [] (nk_o K (mh ad A I)) := by
  obtain ⟨fo, hfo⟩ := hW.o
  have hWn := hW.1
  refine nk_aload_n (i := 1) dL_law_937 rfl rfl ?_
  refine nk_aload_n (i := 0) dL_law_938 rfl rfl ?_
  refine nk_iload_n (i := 3) dL_law_939 rfl rfl ?_
  refine nk_iconst (v := 1) dL_law_940 (by decide) ?_
  refine nk_iadd dL_law_941 ?_
  refine nk_tldN (j := i + 1) dL_law_942 hsc (lw_ix i 1) (by omega) (by omega) ?_
  refine nk_aload_n (i := 0) dL_law_943 rfl rfl ?_
  refine nk_iload_n (i := 3) dL_law_944 rfl rfl ?_
  refine nk_iconst (v := 2) dL_law_945 (by decide) ?_
  refine nk_iadd dL_law_946 ?_
  refine nk_tldN (j := i + 2) dL_law_947 hsc (lw_ix i 2) (by omega) (by omega) ?_
  refine nk_aload_n (i := 0) dL_law_948 rfl rfl ?_
  refine nk_iload_n (i := 3) dL_law_949 rfl rfl ?_
  refine nk_iconst (v := 3) dL_law_950 (by decide) ?_
  refine nk_iadd dL_law_951 ?_
  refine nk_tldN (j := i + 3) dL_law_952 hsc (lw_ix i 3) (by omega) (by omega) ?_
  refine nk_cV (bc' := bc) (bs' := bs) kL_103 ((s_X7_cluster hW.V).frame hd) dL_law_953 (lw_o hfo) rfl rfl (by decide) (Nat.le_of_ble_eq_true rfl) ⟨by omega, by omega⟩ (fun rr H2 hr => ?_)
  obtain ⟨K2, ⟨rfl, rfl⟩, hd2, rfl⟩ := hr
  obtain ⟨fm, hfm⟩ := lw_m hd2
  refine nk_aload_n (i := 2) dL_law_956 rfl rfl ?_
  refine nk_aload_n (i := 0) dL_law_957 rfl rfl ?_
  refine nk_iload_n (i := 3) dL_law_958 rfl rfl ?_
  refine nk_iconst (v := 1) dL_law_959 (by decide) ?_
  refine nk_iadd dL_law_960 ?_
  refine nk_tldN (j := i + 1) dL_law_961 hsc (lw_ix i 1) (by omega) (by omega) ?_
  refine nk_aload_n (i := 0) dL_law_962 rfl rfl ?_
  refine nk_iload_n (i := 3) dL_law_963 rfl rfl ?_
  refine nk_iconst (v := 2) dL_law_964 (by decide) ?_
  refine nk_iadd dL_law_965 ?_
  refine nk_tldN (j := i + 2) dL_law_966 hsc (lw_ix i 2) (by omega) (by omega) ?_
  refine nk_aload_n (i := 0) dL_law_967 rfl rfl ?_
  refine nk_iload_n (i := 3) dL_law_968 rfl rfl ?_
  refine nk_iconst (v := 3) dL_law_969 (by decide) ?_
  refine nk_iadd dL_law_970 ?_
  refine nk_tldN (j := i + 3) dL_law_971 hsc (lw_ix i 3) (by omega) (by omega) ?_
  refine nk_cV (bc' := bc) (bs' := bs) kL_106 (((s_X8_cluster hi hW.ms.1).frame hd2.symm).to (nk_o_comm hd2)) dL_law_972 hfm rfl rfl (by decide) (Nat.le_of_ble_eq_true rfl) ⟨by omega, by omega⟩ (fun rr H2 hr => ?_)
  obtain ⟨H3, ⟨rfl, rfl⟩, hd3, rfl⟩ := hr
  refine nk_icmpeq (tgt := 1747) dL_law_975 (by decide) (fun _ => ?_) (fun h975 => by first | exact absurd (rfl) h975 | exact absurd h975 (rfl))
  refine nk_J.to ?_ rfl rfl (nk_o_comm hd3)
  exact kk _ _ _ _ _ _ _ _ _ hd3.symm hW

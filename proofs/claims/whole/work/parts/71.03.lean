/-! the law: calls -/
set_option maxRecDepth 20000 in
theorem lo_22 {nm : String} {G : nk_EG} (hG : nk_GS G) {s0 L : Nat} {xs : Nat → Int32} (hsc : G.2.2.1 s0 = some (L, xs)) (hL : L ≤ 3072) {i : Nat} (hiL : i + 6 ≤ L) {ad : Nat → Nat} (hi : mInj ad) {K : nk_AH} {g : Nat → Nat} {o m b u l t : Nat} {A : Nat → Nat → Int32} {I : Nat → Int32} (hd : nk_dj K (mh ad A I)) (hW : cW K g o A I m b u l t) {bc bs : Nat} {Φ : Option Value → nk_AH → Prop} (kk : ∀ (K2 : nk_AH) (g2 : Nat → Nat) (A2 : Nat → Nat → Int32) (I2 : Nat → Int32) (m2 b2 u2 l2 t2 : Nat), nk_dj K2 (mh ad A2 I2) → cW K2 g2 o A2 I2 m2 b2 u2 l2 t2 → nk_J G (mL nm) 20 Φ bc bs 1747 [some (.ref s0), some (.ref o), some (.ref (ad 0)), some (.int (nI i))] [] (nk_o K2 (mh ad A2 I2))) : nk_J G (mL nm) 20 Φ (bc + 14) (bs + 240) 980 [some (.ref s0), some (.ref o), some (.ref (ad 0)), some (.int (nI i))] [] (nk_o K (mh ad A I)) := by
  obtain ⟨fo, hfo⟩ := hW.o
  have hWn := hW.1
  refine nk_aload_n (i := 1) dL_law_980 rfl rfl ?_
  refine nk_aload_n (i := 0) dL_law_981 rfl rfl ?_
  refine nk_iload_n (i := 3) dL_law_982 rfl rfl ?_
  refine nk_iconst (v := 1) dL_law_983 (by decide) ?_
  refine nk_iadd dL_law_984 ?_
  refine nk_tldN (j := i + 1) dL_law_985 hsc (lw_ix i 1) (by omega) (by omega) ?_
  refine nk_aload_n (i := 0) dL_law_986 rfl rfl ?_
  refine nk_iload_n (i := 3) dL_law_987 rfl rfl ?_
  refine nk_iconst (v := 2) dL_law_988 (by decide) ?_
  refine nk_iadd dL_law_989 ?_
  refine nk_tldN (j := i + 2) dL_law_990 hsc (lw_ix i 2) (by omega) (by omega) ?_
  refine nk_cV (bc' := bc) (bs' := bs) kL_107 ((s_X7_summary hW.V).frame hd) dL_law_991 (lw_o hfo) rfl rfl (by decide) (Nat.le_of_ble_eq_true rfl) ⟨by omega, by omega⟩ (fun rr H2 hr => ?_)
  obtain ⟨K2, ⟨rfl, rfl⟩, hd2, rfl⟩ := hr
  obtain ⟨fm, hfm⟩ := lw_m hd2
  refine nk_aload_n (i := 2) dL_law_994 rfl rfl ?_
  refine nk_aload_n (i := 0) dL_law_995 rfl rfl ?_
  refine nk_iload_n (i := 3) dL_law_996 rfl rfl ?_
  refine nk_iconst (v := 1) dL_law_997 (by decide) ?_
  refine nk_iadd dL_law_998 ?_
  refine nk_tldN (j := i + 1) dL_law_999 hsc (lw_ix i 1) (by omega) (by omega) ?_
  refine nk_aload_n (i := 0) dL_law_1000 rfl rfl ?_
  refine nk_iload_n (i := 3) dL_law_1001 rfl rfl ?_
  refine nk_iconst (v := 2) dL_law_1002 (by decide) ?_
  refine nk_iadd dL_law_1003 ?_
  refine nk_tldN (j := i + 2) dL_law_1004 hsc (lw_ix i 2) (by omega) (by omega) ?_
  refine nk_cV (bc' := bc) (bs' := bs) kL_110 (((s_X8_summary hi hW.ms.1).frame hd2.symm).to (nk_o_comm hd2)) dL_law_1005 hfm rfl rfl (by decide) (Nat.le_of_ble_eq_true rfl) ⟨by omega, by omega⟩ (fun rr H2 hr => ?_)
  obtain ⟨H3, ⟨rfl, rfl⟩, hd3, rfl⟩ := hr
  refine nk_icmpeq (tgt := 1747) dL_law_1008 (by decide) (fun _ => ?_) (fun h1008 => by first | exact absurd (rfl) h1008 | exact absurd h1008 (rfl))
  refine nk_J.to ?_ rfl rfl (nk_o_comm hd3)
  exact kk _ _ _ _ _ _ _ _ _ hd3.symm hW
set_option maxRecDepth 20000 in
theorem lo_23 {nm : String} {G : nk_EG} (hG : nk_GS G) {s0 L : Nat} {xs : Nat → Int32} (hsc : G.2.2.1 s0 = some (L, xs)) (hL : L ≤ 3072) {i : Nat} (hiL : i + 6 ≤ L) {ad : Nat → Nat} (hi : mInj ad) {K : nk_AH} {g : Nat → Nat} {o m b u l t : Nat} {A : Nat → Nat → Int32} {I : Nat → Int32} (hd : nk_dj K (mh ad A I)) (hW : cW K g o A I m b u l t) {bc bs : Nat} {Φ : Option Value → nk_AH → Prop} (kk : ∀ (K2 : nk_AH) (g2 : Nat → Nat) (A2 : Nat → Nat → Int32) (I2 : Nat → Int32) (m2 b2 u2 l2 t2 : Nat), nk_dj K2 (mh ad A2 I2) → cW K2 g2 o A2 I2 m2 b2 u2 l2 t2 → nk_J G (mL nm) 20 Φ bc bs 1747 [some (.ref s0), some (.ref o), some (.ref (ad 0)), some (.int (nI i))] [] (nk_o K2 (mh ad A2 I2))) : nk_J G (mL nm) 20 Φ (bc + 14) (bs + 240) 1013 [some (.ref s0), some (.ref o), some (.ref (ad 0)), some (.int (nI i))] [] (nk_o K (mh ad A I)) := by
  obtain ⟨fo, hfo⟩ := hW.o
  have hWn := hW.1
  refine nk_aload_n (i := 1) dL_law_1013 rfl rfl ?_
  refine nk_aload_n (i := 0) dL_law_1014 rfl rfl ?_
  refine nk_iload_n (i := 3) dL_law_1015 rfl rfl ?_
  refine nk_iconst (v := 1) dL_law_1016 (by decide) ?_
  refine nk_iadd dL_law_1017 ?_
  refine nk_tldN (j := i + 1) dL_law_1018 hsc (lw_ix i 1) (by omega) (by omega) ?_
  refine nk_aload_n (i := 0) dL_law_1019 rfl rfl ?_
  refine nk_iload_n (i := 3) dL_law_1020 rfl rfl ?_
  refine nk_iconst (v := 2) dL_law_1021 (by decide) ?_
  refine nk_iadd dL_law_1022 ?_
  refine nk_tldN (j := i + 2) dL_law_1023 hsc (lw_ix i 2) (by omega) (by omega) ?_
  refine nk_aload_n (i := 0) dL_law_1024 rfl rfl ?_
  refine nk_iload_n (i := 3) dL_law_1025 rfl rfl ?_
  refine nk_iconst (v := 3) dL_law_1026 (by decide) ?_
  refine nk_iadd dL_law_1027 ?_
  refine nk_tldN (j := i + 3) dL_law_1028 hsc (lw_ix i 3) (by omega) (by omega) ?_
  refine nk_cV (bc' := bc) (bs' := bs) kL_111 ((s_X7_word hW.V).frame hd) dL_law_1029 (lw_o hfo) rfl rfl (by decide) (Nat.le_of_ble_eq_true rfl) ⟨by omega, by omega⟩ (fun rr H2 hr => ?_)
  obtain ⟨K2, ⟨rfl, rfl⟩, hd2, rfl⟩ := hr
  obtain ⟨fm, hfm⟩ := lw_m hd2
  refine nk_aload_n (i := 2) dL_law_1032 rfl rfl ?_
  refine nk_aload_n (i := 0) dL_law_1033 rfl rfl ?_
  refine nk_iload_n (i := 3) dL_law_1034 rfl rfl ?_
  refine nk_iconst (v := 1) dL_law_1035 (by decide) ?_
  refine nk_iadd dL_law_1036 ?_
  refine nk_tldN (j := i + 1) dL_law_1037 hsc (lw_ix i 1) (by omega) (by omega) ?_
  refine nk_aload_n (i := 0) dL_law_1038 rfl rfl ?_
  refine nk_iload_n (i := 3) dL_law_1039 rfl rfl ?_
  refine nk_iconst (v := 2) dL_law_1040 (by decide) ?_
  refine nk_iadd dL_law_1041 ?_
  refine nk_tldN (j := i + 2) dL_law_1042 hsc (lw_ix i 2) (by omega) (by omega) ?_
  refine nk_aload_n (i := 0) dL_law_1043 rfl rfl ?_
  refine nk_iload_n (i := 3) dL_law_1044 rfl rfl ?_
  refine nk_iconst (v := 3) dL_law_1045 (by decide) ?_
  refine nk_iadd dL_law_1046 ?_
  refine nk_tldN (j := i + 3) dL_law_1047 hsc (lw_ix i 3) (by omega) (by omega) ?_
  refine nk_cV (bc' := bc) (bs' := bs) kL_114 (((s_X8_word hi hW.ms.1).frame hd2.symm).to (nk_o_comm hd2)) dL_law_1048 hfm rfl rfl (by decide) (Nat.le_of_ble_eq_true rfl) ⟨by omega, by omega⟩ (fun rr H2 hr => ?_)
  obtain ⟨H3, ⟨rfl, rfl⟩, hd3, rfl⟩ := hr
  refine nk_icmpeq (tgt := 1747) dL_law_1051 (by decide) (fun _ => ?_) (fun h1051 => by first | exact absurd (rfl) h1051 | exact absurd h1051 (rfl))
  refine nk_J.to ?_ rfl rfl (nk_o_comm hd3)
  exact kk _ _ _ _ _ _ _ _ _ hd3.symm hW
set_option maxRecDepth 20000 in
theorem lo_24 {nm : String} {G : nk_EG} (hG : nk_GS G) {s0 L : Nat} {xs : Nat → Int32} (hsc : G.2.2.1 s0 = some (L, xs)) (hL : L ≤ 3072) {i : Nat} (hiL : i + 6 ≤ L) {ad : Nat → Nat} (hi : mInj ad) {K : nk_AH} {g : Nat → Nat} {o m b u l t : Nat} {A : Nat → Nat → Int32} {I : Nat → Int32} (hd : nk_dj K (mh ad A I)) (hW : cW K g o A I m b u l t) {bc bs : Nat} {Φ : Option Value → nk_AH → Prop} (kk : ∀ (K2 : nk_AH) (g2 : Nat → Nat) (A2 : Nat → Nat → Int32) (I2 : Nat → Int32) (m2 b2 u2 l2 t2 : Nat), nk_dj K2 (mh ad A2 I2) → cW K2 g2 o A2 I2 m2 b2 u2 l2 t2 → nk_J G (mL nm) 20 Φ bc bs 1747 [some (.ref s0), some (.ref o), some (.ref (ad 0)), some (.int (nI i))] [] (nk_o K2 (mh ad A2 I2))) : nk_J G (mL nm) 20 Φ (bc + 14) (bs + 240) 1056 [some (.ref s0), some (.ref o), some (.ref (ad 0)), some (.int (nI i))] [] (nk_o K (mh ad A I)) := by
  obtain ⟨fo, hfo⟩ := hW.o
  have hWn := hW.1
  refine nk_aload_n (i := 1) dL_law_1056 rfl rfl ?_
  refine nk_aload_n (i := 0) dL_law_1057 rfl rfl ?_
  refine nk_iload_n (i := 3) dL_law_1058 rfl rfl ?_
  refine nk_iconst (v := 1) dL_law_1059 (by decide) ?_
  refine nk_iadd dL_law_1060 ?_
  refine nk_tldN (j := i + 1) dL_law_1061 hsc (lw_ix i 1) (by omega) (by omega) ?_
  refine nk_aload_n (i := 0) dL_law_1062 rfl rfl ?_
  refine nk_iload_n (i := 3) dL_law_1063 rfl rfl ?_
  refine nk_iconst (v := 2) dL_law_1064 (by decide) ?_
  refine nk_iadd dL_law_1065 ?_
  refine nk_tldN (j := i + 2) dL_law_1066 hsc (lw_ix i 2) (by omega) (by omega) ?_
  refine nk_aload_n (i := 0) dL_law_1067 rfl rfl ?_
  refine nk_iload_n (i := 3) dL_law_1068 rfl rfl ?_
  refine nk_iconst (v := 3) dL_law_1069 (by decide) ?_
  refine nk_iadd dL_law_1070 ?_
  refine nk_tldN (j := i + 3) dL_law_1071 hsc (lw_ix i 3) (by omega) (by omega) ?_
  refine nk_aload_n (i := 0) dL_law_1072 rfl rfl ?_
  refine nk_iload_n (i := 3) dL_law_1073 rfl rfl ?_
  refine nk_iconst (v := 4) dL_law_1074 (by decide) ?_
  refine nk_iadd dL_law_1075 ?_
  refine nk_tldN (j := i + 4) dL_law_1076 hsc (lw_ix i 4) (by omega) (by omega) ?_
  refine nk_cV (bc' := bc) (bs' := bs) kL_115 ((s_X7_bits hW.V).frame hd) dL_law_1077 (lw_o hfo) rfl rfl (by decide) (Nat.le_of_ble_eq_true rfl) ⟨by omega, by omega⟩ (fun rr H2 hr => ?_)
  obtain ⟨K2, ⟨rfl, rfl⟩, hd2, rfl⟩ := hr
  obtain ⟨fm, hfm⟩ := lw_m hd2
  refine nk_aload_n (i := 2) dL_law_1080 rfl rfl ?_
  refine nk_aload_n (i := 0) dL_law_1081 rfl rfl ?_
  refine nk_iload_n (i := 3) dL_law_1082 rfl rfl ?_
  refine nk_iconst (v := 1) dL_law_1083 (by decide) ?_
  refine nk_iadd dL_law_1084 ?_
  refine nk_tldN (j := i + 1) dL_law_1085 hsc (lw_ix i 1) (by omega) (by omega) ?_
  refine nk_aload_n (i := 0) dL_law_1086 rfl rfl ?_
  refine nk_iload_n (i := 3) dL_law_1087 rfl rfl ?_
  refine nk_iconst (v := 2) dL_law_1088 (by decide) ?_
  refine nk_iadd dL_law_1089 ?_
  refine nk_tldN (j := i + 2) dL_law_1090 hsc (lw_ix i 2) (by omega) (by omega) ?_
  refine nk_aload_n (i := 0) dL_law_1091 rfl rfl ?_
  refine nk_iload_n (i := 3) dL_law_1092 rfl rfl ?_
  refine nk_iconst (v := 3) dL_law_1093 (by decide) ?_
  refine nk_iadd dL_law_1094 ?_
  refine nk_tldN (j := i + 3) dL_law_1095 hsc (lw_ix i 3) (by omega) (by omega) ?_
  refine nk_aload_n (i := 0) dL_law_1096 rfl rfl ?_
  refine nk_iload_n (i := 3) dL_law_1097 rfl rfl ?_
  refine nk_iconst (v := 4) dL_law_1098 (by decide) ?_
  refine nk_iadd dL_law_1099 ?_
  refine nk_tldN (j := i + 4) dL_law_1100 hsc (lw_ix i 4) (by omega) (by omega) ?_
  refine nk_cV (bc' := bc) (bs' := bs) kL_118 (((s_X8_bits hi hW.ms.1).frame hd2.symm).to (nk_o_comm hd2)) dL_law_1101 hfm rfl rfl (by decide) (Nat.le_of_ble_eq_true rfl) ⟨by omega, by omega⟩ (fun rr H2 hr => ?_)
  obtain ⟨H3, ⟨rfl, rfl⟩, hd3, rfl⟩ := hr
  refine nk_icmpeq (tgt := 1747) dL_law_1104 (by decide) (fun _ => ?_) (fun h1104 => by first | exact absurd (rfl) h1104 | exact absurd h1104 (rfl))
  refine nk_J.to ?_ rfl rfl (nk_o_comm hd3)
  exact kk _ _ _ _ _ _ _ _ _ hd3.symm hW
set_option maxRecDepth 20000 in
theorem lo_25 {nm : String} {G : nk_EG} (hG : nk_GS G) {s0 L : Nat} {xs : Nat → Int32} (hsc : G.2.2.1 s0 = some (L, xs)) (hL : L ≤ 3072) {i : Nat} (hiL : i + 6 ≤ L) {ad : Nat → Nat} (hi : mInj ad) {K : nk_AH} {g : Nat → Nat} {o m b u l t : Nat} {A : Nat → Nat → Int32} {I : Nat → Int32} (hd : nk_dj K (mh ad A I)) (hW : cW K g o A I m b u l t) {bc bs : Nat} {Φ : Option Value → nk_AH → Prop} (kk : ∀ (K2 : nk_AH) (g2 : Nat → Nat) (A2 : Nat → Nat → Int32) (I2 : Nat → Int32) (m2 b2 u2 l2 t2 : Nat), nk_dj K2 (mh ad A2 I2) → cW K2 g2 o A2 I2 m2 b2 u2 l2 t2 → nk_J G (mL nm) 20 Φ bc bs 1747 [some (.ref s0), some (.ref o), some (.ref (ad 0)), some (.int (nI i))] [] (nk_o K2 (mh ad A2 I2))) : nk_J G (mL nm) 20 Φ (bc + 14) (bs + 240) 1109 [some (.ref s0), some (.ref o), some (.ref (ad 0)), some (.int (nI i))] [] (nk_o K (mh ad A I)) := by
  obtain ⟨fo, hfo⟩ := hW.o
  have hWn := hW.1
  refine nk_aload_n (i := 1) dL_law_1109 rfl rfl ?_
  refine nk_aload_n (i := 0) dL_law_1110 rfl rfl ?_
  refine nk_iload_n (i := 3) dL_law_1111 rfl rfl ?_
  refine nk_iconst (v := 1) dL_law_1112 (by decide) ?_
  refine nk_iadd dL_law_1113 ?_
  refine nk_tldN (j := i + 1) dL_law_1114 hsc (lw_ix i 1) (by omega) (by omega) ?_
  refine nk_aload_n (i := 0) dL_law_1115 rfl rfl ?_
  refine nk_iload_n (i := 3) dL_law_1116 rfl rfl ?_
  refine nk_iconst (v := 2) dL_law_1117 (by decide) ?_
  refine nk_iadd dL_law_1118 ?_
  refine nk_tldN (j := i + 2) dL_law_1119 hsc (lw_ix i 2) (by omega) (by omega) ?_
  refine nk_cV (bc' := bc) (bs' := bs) kL_119 ((s_X7_share hW.V).frame hd) dL_law_1120 (lw_o hfo) rfl rfl (by decide) (Nat.le_of_ble_eq_true rfl) ⟨by omega, by omega⟩ (fun rr H2 hr => ?_)
  obtain ⟨K2, ⟨rfl, rfl⟩, hd2, rfl⟩ := hr
  obtain ⟨fm, hfm⟩ := lw_m hd2
  refine nk_aload_n (i := 2) dL_law_1123 rfl rfl ?_
  refine nk_aload_n (i := 0) dL_law_1124 rfl rfl ?_
  refine nk_iload_n (i := 3) dL_law_1125 rfl rfl ?_
  refine nk_iconst (v := 1) dL_law_1126 (by decide) ?_
  refine nk_iadd dL_law_1127 ?_
  refine nk_tldN (j := i + 1) dL_law_1128 hsc (lw_ix i 1) (by omega) (by omega) ?_
  refine nk_aload_n (i := 0) dL_law_1129 rfl rfl ?_
  refine nk_iload_n (i := 3) dL_law_1130 rfl rfl ?_
  refine nk_iconst (v := 2) dL_law_1131 (by decide) ?_
  refine nk_iadd dL_law_1132 ?_
  refine nk_tldN (j := i + 2) dL_law_1133 hsc (lw_ix i 2) (by omega) (by omega) ?_
  refine nk_cV (bc' := bc) (bs' := bs) kL_122 (((s_X8_share hi hW.ms.1 hW.ms.2.2).frame hd2.symm).to (nk_o_comm hd2)) dL_law_1134 hfm rfl rfl (by decide) (Nat.le_of_ble_eq_true rfl) ⟨by omega, by omega⟩ (fun rr H2 hr => ?_)
  obtain ⟨H3, ⟨rfl, rfl⟩, hd3, rfl⟩ := hr
  refine nk_icmpeq (tgt := 1747) dL_law_1137 (by decide) (fun _ => ?_) (fun h1137 => by first | exact absurd (rfl) h1137 | exact absurd h1137 (rfl))
  refine nk_J.to ?_ rfl rfl (nk_o_comm hd3)
  exact kk _ _ _ _ _ _ _ _ _ hd3.symm hW
set_option maxRecDepth 20000 in
theorem lo_26 {nm : String} {G : nk_EG} (hG : nk_GS G) {s0 L : Nat} {xs : Nat → Int32} (hsc : G.2.2.1 s0 = some (L, xs)) (hL : L ≤ 3072) {i : Nat} (hiL : i + 6 ≤ L) {ad : Nat → Nat} (hi : mInj ad) {K : nk_AH} {g : Nat → Nat} {o m b u l t : Nat} {A : Nat → Nat → Int32} {I : Nat → Int32} (hd : nk_dj K (mh ad A I)) (hW : cW K g o A I m b u l t) {bc bs : Nat} {Φ : Option Value → nk_AH → Prop} (kk : ∀ (K2 : nk_AH) (g2 : Nat → Nat) (A2 : Nat → Nat → Int32) (I2 : Nat → Int32) (m2 b2 u2 l2 t2 : Nat), nk_dj K2 (mh ad A2 I2) → cW K2 g2 o A2 I2 m2 b2 u2 l2 t2 → nk_J G (mL nm) 20 Φ bc bs 1747 [some (.ref s0), some (.ref o), some (.ref (ad 0)), some (.int (nI i))] [] (nk_o K2 (mh ad A2 I2))) : nk_J G (mL nm) 20 Φ (bc + 14) (bs + 240) 1142 [some (.ref s0), some (.ref o), some (.ref (ad 0)), some (.int (nI i))] [] (nk_o K (mh ad A I)) := by
  obtain ⟨fo, hfo⟩ := hW.o
  have hWn := hW.1
  refine nk_aload_n (i := 1) dL_law_1142 rfl rfl ?_
  refine nk_aload_n (i := 0) dL_law_1143 rfl rfl ?_
  refine nk_iload_n (i := 3) dL_law_1144 rfl rfl ?_
  refine nk_iconst (v := 1) dL_law_1145 (by decide) ?_
  refine nk_iadd dL_law_1146 ?_
  refine nk_tldN (j := i + 1) dL_law_1147 hsc (lw_ix i 1) (by omega) (by omega) ?_
  refine nk_aload_n (i := 0) dL_law_1148 rfl rfl ?_
  refine nk_iload_n (i := 3) dL_law_1149 rfl rfl ?_
  refine nk_iconst (v := 2) dL_law_1150 (by decide) ?_
  refine nk_iadd dL_law_1151 ?_
  refine nk_tldN (j := i + 2) dL_law_1152 hsc (lw_ix i 2) (by omega) (by omega) ?_
  refine nk_cV (bc' := bc) (bs' := bs) kL_123 ((s_X7_rank hW.V).frame hd) dL_law_1153 (lw_o hfo) rfl rfl (by decide) (Nat.le_of_ble_eq_true rfl) ⟨by omega, by omega⟩ (fun rr H2 hr => ?_)
  obtain ⟨K2, ⟨rfl, rfl⟩, hd2, rfl⟩ := hr
  obtain ⟨fm, hfm⟩ := lw_m hd2
  refine nk_aload_n (i := 2) dL_law_1156 rfl rfl ?_
  refine nk_aload_n (i := 0) dL_law_1157 rfl rfl ?_
  refine nk_iload_n (i := 3) dL_law_1158 rfl rfl ?_
  refine nk_iconst (v := 1) dL_law_1159 (by decide) ?_
  refine nk_iadd dL_law_1160 ?_
  refine nk_tldN (j := i + 1) dL_law_1161 hsc (lw_ix i 1) (by omega) (by omega) ?_
  refine nk_aload_n (i := 0) dL_law_1162 rfl rfl ?_
  refine nk_iload_n (i := 3) dL_law_1163 rfl rfl ?_
  refine nk_iconst (v := 2) dL_law_1164 (by decide) ?_
  refine nk_iadd dL_law_1165 ?_
  refine nk_tldN (j := i + 2) dL_law_1166 hsc (lw_ix i 2) (by omega) (by omega) ?_
  refine nk_cV (bc' := bc) (bs' := bs) kL_126 (((s_X8_rank hi hW.ms.1).frame hd2.symm).to (nk_o_comm hd2)) dL_law_1167 hfm rfl rfl (by decide) (Nat.le_of_ble_eq_true rfl) ⟨by omega, by omega⟩ (fun rr H2 hr => ?_)
  obtain ⟨H3, ⟨rfl, rfl⟩, hd3, rfl⟩ := hr
  refine nk_icmpeq (tgt := 1747) dL_law_1170 (by decide) (fun _ => ?_) (fun h1170 => by first | exact absurd (rfl) h1170 | exact absurd h1170 (rfl))
  refine nk_J.to ?_ rfl rfl (nk_o_comm hd3)
  exact kk _ _ _ _ _ _ _ _ _ hd3.symm hW
set_option maxRecDepth 20000 in
theorem lo_27 {nm : String} {G : nk_EG} (hG : nk_GS G) {s0 L : Nat} {xs : Nat → Int32} (hsc : G.2.2.1 s0 = some (L, xs)) (hL : L ≤ 3072) {i : Nat} (hiL : i + 6 ≤ L) {ad : Nat → Nat} (hi : mInj ad) {K : nk_AH} {g : Nat → Nat} {o m b u l t : Nat} {A : Nat → Nat → Int32} {I : Nat → Int32} (hd : nk_dj K (mh ad A I)) (hW : cW K g o A I m b u l t) {bc bs : Nat} {Φ : Option Value → nk_AH → Prop} (kk : ∀ (K2 : nk_AH) (g2 : Nat → Nat) (A2 : Nat → Nat → Int32) (I2 : Nat → Int32) (m2 b2 u2 l2 t2 : Nat), nk_dj K2 (mh ad A2 I2) → cW K2 g2 o A2 I2 m2 b2 u2 l2 t2 → nk_J G (mL nm) 20 Φ bc bs 1747 [some (.ref s0), some (.ref o), some (.ref (ad 0)), some (.int (nI i))] [] (nk_o K2 (mh ad A2 I2))) : nk_J G (mL nm) 20 Φ (bc + 14) (bs + 240) 1175 [some (.ref s0), some (.ref o), some (.ref (ad 0)), some (.int (nI i))] [] (nk_o K (mh ad A I)) := by
  obtain ⟨fo, hfo⟩ := hW.o
  have hWn := hW.1
  refine nk_aload_n (i := 1) dL_law_1175 rfl rfl ?_
  refine nk_aload_n (i := 0) dL_law_1176 rfl rfl ?_
  refine nk_iload_n (i := 3) dL_law_1177 rfl rfl ?_
  refine nk_iconst (v := 1) dL_law_1178 (by decide) ?_
  refine nk_iadd dL_law_1179 ?_
  refine nk_tldN (j := i + 1) dL_law_1180 hsc (lw_ix i 1) (by omega) (by omega) ?_
  refine nk_aload_n (i := 0) dL_law_1181 rfl rfl ?_
  refine nk_iload_n (i := 3) dL_law_1182 rfl rfl ?_
  refine nk_iconst (v := 2) dL_law_1183 (by decide) ?_
  refine nk_iadd dL_law_1184 ?_
  refine nk_tldN (j := i + 2) dL_law_1185 hsc (lw_ix i 2) (by omega) (by omega) ?_
  refine nk_cV (bc' := bc) (bs' := bs) kL_127 ((s_X7_nth hW.V).frame hd) dL_law_1186 (lw_o hfo) rfl rfl (by decide) (Nat.le_of_ble_eq_true rfl) ⟨by omega, by omega⟩ (fun rr H2 hr => ?_)
  obtain ⟨K2, ⟨rfl, rfl⟩, hd2, rfl⟩ := hr
  obtain ⟨fm, hfm⟩ := lw_m hd2
  refine nk_aload_n (i := 2) dL_law_1189 rfl rfl ?_
  refine nk_aload_n (i := 0) dL_law_1190 rfl rfl ?_
  refine nk_iload_n (i := 3) dL_law_1191 rfl rfl ?_
  refine nk_iconst (v := 1) dL_law_1192 (by decide) ?_
  refine nk_iadd dL_law_1193 ?_
  refine nk_tldN (j := i + 1) dL_law_1194 hsc (lw_ix i 1) (by omega) (by omega) ?_
  refine nk_aload_n (i := 0) dL_law_1195 rfl rfl ?_
  refine nk_iload_n (i := 3) dL_law_1196 rfl rfl ?_
  refine nk_iconst (v := 2) dL_law_1197 (by decide) ?_
  refine nk_iadd dL_law_1198 ?_
  refine nk_tldN (j := i + 2) dL_law_1199 hsc (lw_ix i 2) (by omega) (by omega) ?_
  refine nk_cV (bc' := bc) (bs' := bs) kL_130 (((s_X8_nth hi hW.ms.1).frame hd2.symm).to (nk_o_comm hd2)) dL_law_1200 hfm rfl rfl (by decide) (Nat.le_of_ble_eq_true rfl) ⟨by omega, by omega⟩ (fun rr H2 hr => ?_)
  obtain ⟨H3, ⟨rfl, rfl⟩, hd3, rfl⟩ := hr
  refine nk_icmpeq (tgt := 1747) dL_law_1203 (by decide) (fun _ => ?_) (fun h1203 => by first | exact absurd (rfl) h1203 | exact absurd h1203 (rfl))
  refine nk_J.to ?_ rfl rfl (nk_o_comm hd3)
  exact kk _ _ _ _ _ _ _ _ _ hd3.symm hW
set_option maxRecDepth 20000 in
theorem lo_28 {nm : String} {G : nk_EG} (hG : nk_GS G) {s0 L : Nat} {xs : Nat → Int32} (hsc : G.2.2.1 s0 = some (L, xs)) (hL : L ≤ 3072) {i : Nat} (hiL : i + 6 ≤ L) {ad : Nat → Nat} (hi : mInj ad) {K : nk_AH} {g : Nat → Nat} {o m b u l t : Nat} {A : Nat → Nat → Int32} {I : Nat → Int32} (hd : nk_dj K (mh ad A I)) (hW : cW K g o A I m b u l t) {bc bs : Nat} {Φ : Option Value → nk_AH → Prop} (kk : ∀ (K2 : nk_AH) (g2 : Nat → Nat) (A2 : Nat → Nat → Int32) (I2 : Nat → Int32) (m2 b2 u2 l2 t2 : Nat), nk_dj K2 (mh ad A2 I2) → cW K2 g2 o A2 I2 m2 b2 u2 l2 t2 → nk_J G (mL nm) 20 Φ bc bs 1747 [some (.ref s0), some (.ref o), some (.ref (ad 0)), some (.int (nI i))] [] (nk_o K2 (mh ad A2 I2))) : nk_J G (mL nm) 20 Φ (bc + 14) (bs + 240) 1208 [some (.ref s0), some (.ref o), some (.ref (ad 0)), some (.int (nI i))] [] (nk_o K (mh ad A I)) := by
  obtain ⟨fo, hfo⟩ := hW.o
  have hWn := hW.1
  refine nk_aload_n (i := 1) dL_law_1208 rfl rfl ?_
  refine nk_aload_n (i := 0) dL_law_1209 rfl rfl ?_
  refine nk_iload_n (i := 3) dL_law_1210 rfl rfl ?_
  refine nk_iconst (v := 1) dL_law_1211 (by decide) ?_
  refine nk_iadd dL_law_1212 ?_
  refine nk_tldN (j := i + 1) dL_law_1213 hsc (lw_ix i 1) (by omega) (by omega) ?_
  refine nk_aload_n (i := 0) dL_law_1214 rfl rfl ?_
  refine nk_iload_n (i := 3) dL_law_1215 rfl rfl ?_
  refine nk_iconst (v := 2) dL_law_1216 (by decide) ?_
  refine nk_iadd dL_law_1217 ?_
  refine nk_tldN (j := i + 2) dL_law_1218 hsc (lw_ix i 2) (by omega) (by omega) ?_
  refine nk_cV (bc' := bc) (bs' := bs) kL_131 ((s_X7_near hW.V).frame hd) dL_law_1219 (lw_o hfo) rfl rfl (by decide) (Nat.le_of_ble_eq_true rfl) ⟨by omega, by omega⟩ (fun rr H2 hr => ?_)
  obtain ⟨K2, ⟨rfl, rfl⟩, hd2, rfl⟩ := hr
  obtain ⟨fm, hfm⟩ := lw_m hd2
  refine nk_aload_n (i := 2) dL_law_1222 rfl rfl ?_
  refine nk_aload_n (i := 0) dL_law_1223 rfl rfl ?_
  refine nk_iload_n (i := 3) dL_law_1224 rfl rfl ?_
  refine nk_iconst (v := 1) dL_law_1225 (by decide) ?_
  refine nk_iadd dL_law_1226 ?_
  refine nk_tldN (j := i + 1) dL_law_1227 hsc (lw_ix i 1) (by omega) (by omega) ?_
  refine nk_aload_n (i := 0) dL_law_1228 rfl rfl ?_
  refine nk_iload_n (i := 3) dL_law_1229 rfl rfl ?_
  refine nk_iconst (v := 2) dL_law_1230 (by decide) ?_
  refine nk_iadd dL_law_1231 ?_
  refine nk_tldN (j := i + 2) dL_law_1232 hsc (lw_ix i 2) (by omega) (by omega) ?_
  refine nk_cV (bc' := bc) (bs' := bs) kL_134 (((s_X8_near hi hW.ms.1).frame hd2.symm).to (nk_o_comm hd2)) dL_law_1233 hfm rfl rfl (by decide) (Nat.le_of_ble_eq_true rfl) ⟨by omega, by omega⟩ (fun rr H2 hr => ?_)
  obtain ⟨H3, ⟨rfl, rfl⟩, hd3, rfl⟩ := hr
  refine nk_icmpeq (tgt := 1747) dL_law_1236 (by decide) (fun _ => ?_) (fun h1236 => by first | exact absurd (rfl) h1236 | exact absurd h1236 (rfl))
  refine nk_J.to ?_ rfl rfl (nk_o_comm hd3)
  exact kk _ _ _ _ _ _ _ _ _ hd3.symm hW
set_option maxRecDepth 20000 in
theorem lo_29 {nm : String} {G : nk_EG} (hG : nk_GS G) {s0 L : Nat} {xs : Nat → Int32} (hsc : G.2.2.1 s0 = some (L, xs)) (hL : L ≤ 3072) {i : Nat} (hiL : i + 6 ≤ L) {ad : Nat → Nat} (hi : mInj ad) {K : nk_AH} {g : Nat → Nat} {o m b u l t : Nat} {A : Nat → Nat → Int32} {I : Nat → Int32} (hd : nk_dj K (mh ad A I)) (hW : cW K g o A I m b u l t) {bc bs : Nat} {Φ : Option Value → nk_AH → Prop} (kk : ∀ (K2 : nk_AH) (g2 : Nat → Nat) (A2 : Nat → Nat → Int32) (I2 : Nat → Int32) (m2 b2 u2 l2 t2 : Nat), nk_dj K2 (mh ad A2 I2) → cW K2 g2 o A2 I2 m2 b2 u2 l2 t2 → nk_J G (mL nm) 20 Φ bc bs 1747 [some (.ref s0), some (.ref o), some (.ref (ad 0)), some (.int (nI i))] [] (nk_o K2 (mh ad A2 I2))) : nk_J G (mL nm) 20 Φ (bc + 14) (bs + 240) 1241 [some (.ref s0), some (.ref o), some (.ref (ad 0)), some (.int (nI i))] [] (nk_o K (mh ad A I)) := by
  obtain ⟨fo, hfo⟩ := hW.o
  have hWn := hW.1
  refine nk_aload_n (i := 1) dL_law_1241 rfl rfl ?_
  refine nk_aload_n (i := 0) dL_law_1242 rfl rfl ?_
  refine nk_iload_n (i := 3) dL_law_1243 rfl rfl ?_
  refine nk_iconst (v := 1) dL_law_1244 (by decide) ?_
  refine nk_iadd dL_law_1245 ?_
  refine nk_tldN (j := i + 1) dL_law_1246 hsc (lw_ix i 1) (by omega) (by omega) ?_
  refine nk_aload_n (i := 0) dL_law_1247 rfl rfl ?_
  refine nk_iload_n (i := 3) dL_law_1248 rfl rfl ?_
  refine nk_iconst (v := 2) dL_law_1249 (by decide) ?_
  refine nk_iadd dL_law_1250 ?_
  refine nk_tldN (j := i + 2) dL_law_1251 hsc (lw_ix i 2) (by omega) (by omega) ?_
  refine nk_aload_n (i := 0) dL_law_1252 rfl rfl ?_
  refine nk_iload_n (i := 3) dL_law_1253 rfl rfl ?_
  refine nk_iconst (v := 3) dL_law_1254 (by decide) ?_
  refine nk_iadd dL_law_1255 ?_
  refine nk_tldN (j := i + 3) dL_law_1256 hsc (lw_ix i 3) (by omega) (by omega) ?_
  refine nk_aload_n (i := 0) dL_law_1257 rfl rfl ?_
  refine nk_iload_n (i := 3) dL_law_1258 rfl rfl ?_
  refine nk_iconst (v := 4) dL_law_1259 (by decide) ?_
  refine nk_iadd dL_law_1260 ?_
  refine nk_tldN (j := i + 4) dL_law_1261 hsc (lw_ix i 4) (by omega) (by omega) ?_
  refine nk_cV (bc' := bc) (bs' := bs) kL_135 ((s_X7_tell hW).frame hd) dL_law_1262 (lw_o hfo) rfl rfl (by decide) (Nat.le_of_ble_eq_true rfl) ⟨by omega, by omega⟩ (fun rr H2 hr => ?_)
  obtain ⟨K2, ⟨rfl, g2, m2, b2, u2, l2, t2, hW2⟩, hd2, rfl⟩ := hr
  obtain ⟨fm, hfm⟩ := lw_m hd2
  refine nk_aload_n (i := 2) dL_law_1265 rfl rfl ?_
  refine nk_aload_n (i := 0) dL_law_1266 rfl rfl ?_
  refine nk_iload_n (i := 3) dL_law_1267 rfl rfl ?_
  refine nk_iconst (v := 1) dL_law_1268 (by decide) ?_
  refine nk_iadd dL_law_1269 ?_
  refine nk_tldN (j := i + 1) dL_law_1270 hsc (lw_ix i 1) (by omega) (by omega) ?_
  refine nk_aload_n (i := 0) dL_law_1271 rfl rfl ?_
  refine nk_iload_n (i := 3) dL_law_1272 rfl rfl ?_
  refine nk_iconst (v := 2) dL_law_1273 (by decide) ?_
  refine nk_iadd dL_law_1274 ?_
  refine nk_tldN (j := i + 2) dL_law_1275 hsc (lw_ix i 2) (by omega) (by omega) ?_
  refine nk_aload_n (i := 0) dL_law_1276 rfl rfl ?_
  refine nk_iload_n (i := 3) dL_law_1277 rfl rfl ?_
  refine nk_iconst (v := 3) dL_law_1278 (by decide) ?_
  refine nk_iadd dL_law_1279 ?_
  refine nk_tldN (j := i + 3) dL_law_1280 hsc (lw_ix i 3) (by omega) (by omega) ?_
  refine nk_aload_n (i := 0) dL_law_1281 rfl rfl ?_
  refine nk_iload_n (i := 3) dL_law_1282 rfl rfl ?_
  refine nk_iconst (v := 4) dL_law_1283 (by decide) ?_
  refine nk_iadd dL_law_1284 ?_
  refine nk_tldN (j := i + 4) dL_law_1285 hsc (lw_ix i 4) (by omega) (by omega) ?_
  refine nk_cV (bc' := bc) (bs' := bs) kL_138 (((s_X8_tell hi hW.ms.1 hWn.1).frame hd2.symm).to (nk_o_comm hd2)) dL_law_1286 hfm rfl rfl (by decide) (Nat.le_of_ble_eq_true rfl) ⟨by omega, by omega⟩ (fun rr H2 hr => ?_)
  obtain ⟨H3, ⟨rfl, rfl⟩, hd3, rfl⟩ := hr
  refine nk_icmpeq (tgt := 1747) dL_law_1289 (by decide) (fun _ => ?_) (fun h1289 => by first | exact absurd (rfl) h1289 | exact absurd h1289 (rfl))
  refine nk_J.to ?_ rfl rfl (nk_o_comm hd3)
  exact kk _ _ _ _ _ _ _ _ _ hd3.symm hW2

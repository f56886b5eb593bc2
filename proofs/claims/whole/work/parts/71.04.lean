/-! the law: calls -/
set_option maxRecDepth 20000 in
theorem lo_30 {nm : String} {G : nk_EG} (hG : nk_GS G) {s0 L : Nat} {xs : Nat → Int32} (hsc : G.2.2.1 s0 = some (L, xs)) (hL : L ≤ 3072) {i : Nat} (hiL : i + 6 ≤ L) {ad : Nat → Nat} (hi : mInj ad) {K : nk_AH} {g : Nat → Nat} {o m b u l t : Nat} {A : Nat → Nat → Int32} {I : Nat → Int32} (hd : nk_dj K (mh ad A I)) (hW : cW K g o A I m b u l t) {bc bs : Nat} {Φ : Option Value → nk_AH → Prop} (kk : ∀ (K2 : nk_AH) (g2 : Nat → Nat) (A2 : Nat → Nat → Int32) (I2 : Nat → Int32) (m2 b2 u2 l2 t2 : Nat), nk_dj K2 (mh ad A2 I2) → cW K2 g2 o A2 I2 m2 b2 u2 l2 t2 → nk_J G (mL nm) 20 Φ bc bs 1747 [some (.ref s0), some (.ref o), some (.ref (ad 0)), some (.int (nI i))] [] (nk_o K2 (mh ad A2 I2))) : nk_J G (mL nm) 20 Φ (bc + 14) (bs + 240) 1294 [some (.ref s0), some (.ref o), some (.ref (ad 0)), some (.int (nI i))] [] (nk_o K (mh ad A I)) := by
  obtain ⟨fo, hfo⟩ := hW.o
  have hWn := hW.1
  refine nk_aload_n (i := 1) dL_law_1294 rfl rfl ?_
  refine nk_aload_n (i := 0) dL_law_1295 rfl rfl ?_
  refine nk_iload_n (i := 3) dL_law_1296 rfl rfl ?_
  refine nk_iconst (v := 1) dL_law_1297 (by decide) ?_
  refine nk_iadd dL_law_1298 ?_
  refine nk_tldN (j := i + 1) dL_law_1299 hsc (lw_ix i 1) (by omega) (by omega) ?_
  refine nk_aload_n (i := 0) dL_law_1300 rfl rfl ?_
  refine nk_iload_n (i := 3) dL_law_1301 rfl rfl ?_
  refine nk_iconst (v := 2) dL_law_1302 (by decide) ?_
  refine nk_iadd dL_law_1303 ?_
  refine nk_tldN (j := i + 2) dL_law_1304 hsc (lw_ix i 2) (by omega) (by omega) ?_
  refine nk_aload_n (i := 0) dL_law_1305 rfl rfl ?_
  refine nk_iload_n (i := 3) dL_law_1306 rfl rfl ?_
  refine nk_iconst (v := 3) dL_law_1307 (by decide) ?_
  refine nk_iadd dL_law_1308 ?_
  refine nk_tldN (j := i + 3) dL_law_1309 hsc (lw_ix i 3) (by omega) (by omega) ?_
  refine nk_aload_n (i := 0) dL_law_1310 rfl rfl ?_
  refine nk_iload_n (i := 3) dL_law_1311 rfl rfl ?_
  refine nk_iconst (v := 4) dL_law_1312 (by decide) ?_
  refine nk_iadd dL_law_1313 ?_
  refine nk_tldN (j := i + 4) dL_law_1314 hsc (lw_ix i 4) (by omega) (by omega) ?_
  refine nk_cV (bc' := bc) (bs' := bs) kL_139 ((s_X7_chase hW.V).frame hd) dL_law_1315 (lw_o hfo) rfl rfl (by decide) (Nat.le_of_ble_eq_true rfl) ⟨by omega, by omega⟩ (fun rr H2 hr => ?_)
  obtain ⟨K2, ⟨rfl, rfl⟩, hd2, rfl⟩ := hr
  obtain ⟨fm, hfm⟩ := lw_m hd2
  refine nk_aload_n (i := 2) dL_law_1318 rfl rfl ?_
  refine nk_aload_n (i := 0) dL_law_1319 rfl rfl ?_
  refine nk_iload_n (i := 3) dL_law_1320 rfl rfl ?_
  refine nk_iconst (v := 1) dL_law_1321 (by decide) ?_
  refine nk_iadd dL_law_1322 ?_
  refine nk_tldN (j := i + 1) dL_law_1323 hsc (lw_ix i 1) (by omega) (by omega) ?_
  refine nk_aload_n (i := 0) dL_law_1324 rfl rfl ?_
  refine nk_iload_n (i := 3) dL_law_1325 rfl rfl ?_
  refine nk_iconst (v := 2) dL_law_1326 (by decide) ?_
  refine nk_iadd dL_law_1327 ?_
  refine nk_tldN (j := i + 2) dL_law_1328 hsc (lw_ix i 2) (by omega) (by omega) ?_
  refine nk_aload_n (i := 0) dL_law_1329 rfl rfl ?_
  refine nk_iload_n (i := 3) dL_law_1330 rfl rfl ?_
  refine nk_iconst (v := 3) dL_law_1331 (by decide) ?_
  refine nk_iadd dL_law_1332 ?_
  refine nk_tldN (j := i + 3) dL_law_1333 hsc (lw_ix i 3) (by omega) (by omega) ?_
  refine nk_aload_n (i := 0) dL_law_1334 rfl rfl ?_
  refine nk_iload_n (i := 3) dL_law_1335 rfl rfl ?_
  refine nk_iconst (v := 4) dL_law_1336 (by decide) ?_
  refine nk_iadd dL_law_1337 ?_
  refine nk_tldN (j := i + 4) dL_law_1338 hsc (lw_ix i 4) (by omega) (by omega) ?_
  refine nk_cV (bc' := bc) (bs' := bs) kL_142 (((s_X8_chase hi hW.ms.1).frame hd2.symm).to (nk_o_comm hd2)) dL_law_1339 hfm rfl rfl (by decide) (Nat.le_of_ble_eq_true rfl) ⟨by omega, by omega⟩ (fun rr H2 hr => ?_)
  obtain ⟨H3, ⟨rfl, rfl⟩, hd3, rfl⟩ := hr
  refine nk_icmpeq (tgt := 1747) dL_law_1342 (by decide) (fun _ => ?_) (fun h1342 => by first | exact absurd (rfl) h1342 | exact absurd h1342 (rfl))
  refine nk_J.to ?_ rfl rfl (nk_o_comm hd3)
  exact kk _ _ _ _ _ _ _ _ _ hd3.symm hW
set_option maxRecDepth 20000 in
theorem lo_31 {nm : String} {G : nk_EG} (hG : nk_GS G) {s0 L : Nat} {xs : Nat → Int32} (hsc : G.2.2.1 s0 = some (L, xs)) (hL : L ≤ 3072) {i : Nat} (hiL : i + 6 ≤ L) {ad : Nat → Nat} (hi : mInj ad) {K : nk_AH} {g : Nat → Nat} {o m b u l t : Nat} {A : Nat → Nat → Int32} {I : Nat → Int32} (hd : nk_dj K (mh ad A I)) (hW : cW K g o A I m b u l t) {bc bs : Nat} {Φ : Option Value → nk_AH → Prop} (kk : ∀ (K2 : nk_AH) (g2 : Nat → Nat) (A2 : Nat → Nat → Int32) (I2 : Nat → Int32) (m2 b2 u2 l2 t2 : Nat), nk_dj K2 (mh ad A2 I2) → cW K2 g2 o A2 I2 m2 b2 u2 l2 t2 → nk_J G (mL nm) 20 Φ bc bs 1747 [some (.ref s0), some (.ref o), some (.ref (ad 0)), some (.int (nI i))] [] (nk_o K2 (mh ad A2 I2))) : nk_J G (mL nm) 20 Φ (bc + 14) (bs + 240) 1347 [some (.ref s0), some (.ref o), some (.ref (ad 0)), some (.int (nI i))] [] (nk_o K (mh ad A I)) := by
  obtain ⟨fo, hfo⟩ := hW.o
  have hWn := hW.1
  refine nk_aload_n (i := 1) dL_law_1347 rfl rfl ?_
  refine nk_aload_n (i := 0) dL_law_1348 rfl rfl ?_
  refine nk_iload_n (i := 3) dL_law_1349 rfl rfl ?_
  refine nk_iconst (v := 1) dL_law_1350 (by decide) ?_
  refine nk_iadd dL_law_1351 ?_
  refine nk_tldN (j := i + 1) dL_law_1352 hsc (lw_ix i 1) (by omega) (by omega) ?_
  refine nk_cV (bc' := bc) (bs' := bs) kL_143 ((s_X7_meet hW.V).frame hd) dL_law_1353 (lw_o hfo) rfl rfl (by decide) (Nat.le_of_ble_eq_true rfl) ⟨by omega, by omega⟩ (fun rr H2 hr => ?_)
  obtain ⟨K2, ⟨rfl, rfl⟩, hd2, rfl⟩ := hr
  obtain ⟨fm, hfm⟩ := lw_m hd2
  refine nk_aload_n (i := 2) dL_law_1356 rfl rfl ?_
  refine nk_aload_n (i := 0) dL_law_1357 rfl rfl ?_
  refine nk_iload_n (i := 3) dL_law_1358 rfl rfl ?_
  refine nk_iconst (v := 1) dL_law_1359 (by decide) ?_
  refine nk_iadd dL_law_1360 ?_
  refine nk_tldN (j := i + 1) dL_law_1361 hsc (lw_ix i 1) (by omega) (by omega) ?_
  refine nk_cV (bc' := bc) (bs' := bs) kL_146 (((s_X8_meet hi hW.ms.1).frame hd2.symm).to (nk_o_comm hd2)) dL_law_1362 hfm rfl rfl (by decide) (Nat.le_of_ble_eq_true rfl) ⟨by omega, by omega⟩ (fun rr H2 hr => ?_)
  obtain ⟨H3, ⟨rfl, rfl⟩, hd3, rfl⟩ := hr
  refine nk_icmpeq (tgt := 1747) dL_law_1365 (by decide) (fun _ => ?_) (fun h1365 => by first | exact absurd (rfl) h1365 | exact absurd h1365 (rfl))
  refine nk_J.to ?_ rfl rfl (nk_o_comm hd3)
  exact kk _ _ _ _ _ _ _ _ _ hd3.symm hW
set_option maxRecDepth 20000 in
theorem lo_32 {nm : String} {G : nk_EG} (hG : nk_GS G) {s0 L : Nat} {xs : Nat → Int32} (hsc : G.2.2.1 s0 = some (L, xs)) (hL : L ≤ 3072) {i : Nat} (hiL : i + 6 ≤ L) {ad : Nat → Nat} (hi : mInj ad) {K : nk_AH} {g : Nat → Nat} {o m b u l t : Nat} {A : Nat → Nat → Int32} {I : Nat → Int32} (hd : nk_dj K (mh ad A I)) (hW : cW K g o A I m b u l t) {bc bs : Nat} {Φ : Option Value → nk_AH → Prop} (kk : ∀ (K2 : nk_AH) (g2 : Nat → Nat) (A2 : Nat → Nat → Int32) (I2 : Nat → Int32) (m2 b2 u2 l2 t2 : Nat), nk_dj K2 (mh ad A2 I2) → cW K2 g2 o A2 I2 m2 b2 u2 l2 t2 → nk_J G (mL nm) 20 Φ bc bs 1747 [some (.ref s0), some (.ref o), some (.ref (ad 0)), some (.int (nI i))] [] (nk_o K2 (mh ad A2 I2))) : nk_J G (mL nm) 20 Φ (bc + 14) (bs + 240) 1370 [some (.ref s0), some (.ref o), some (.ref (ad 0)), some (.int (nI i))] [] (nk_o K (mh ad A I)) := by
  obtain ⟨fo, hfo⟩ := hW.o
  have hWn := hW.1
  refine nk_aload_n (i := 1) dL_law_1370 rfl rfl ?_
  refine nk_aload_n (i := 0) dL_law_1371 rfl rfl ?_
  refine nk_iload_n (i := 3) dL_law_1372 rfl rfl ?_
  refine nk_iconst (v := 1) dL_law_1373 (by decide) ?_
  refine nk_iadd dL_law_1374 ?_
  refine nk_tldN (j := i + 1) dL_law_1375 hsc (lw_ix i 1) (by omega) (by omega) ?_
  refine nk_aload_n (i := 0) dL_law_1376 rfl rfl ?_
  refine nk_iload_n (i := 3) dL_law_1377 rfl rfl ?_
  refine nk_iconst (v := 2) dL_law_1378 (by decide) ?_
  refine nk_iadd dL_law_1379 ?_
  refine nk_tldN (j := i + 2) dL_law_1380 hsc (lw_ix i 2) (by omega) (by omega) ?_
  refine nk_aload_n (i := 0) dL_law_1381 rfl rfl ?_
  refine nk_iload_n (i := 3) dL_law_1382 rfl rfl ?_
  refine nk_iconst (v := 3) dL_law_1383 (by decide) ?_
  refine nk_iadd dL_law_1384 ?_
  refine nk_tldN (j := i + 3) dL_law_1385 hsc (lw_ix i 3) (by omega) (by omega) ?_
  refine nk_cV (bc' := bc) (bs' := bs) kL_147 ((s_X7_cover hW.V).frame hd) dL_law_1386 (lw_o hfo) rfl rfl (by decide) (Nat.le_of_ble_eq_true rfl) ⟨by omega, by omega⟩ (fun rr H2 hr => ?_)
  obtain ⟨K2, ⟨rfl, rfl⟩, hd2, rfl⟩ := hr
  obtain ⟨fm, hfm⟩ := lw_m hd2
  refine nk_aload_n (i := 2) dL_law_1389 rfl rfl ?_
  refine nk_aload_n (i := 0) dL_law_1390 rfl rfl ?_
  refine nk_iload_n (i := 3) dL_law_1391 rfl rfl ?_
  refine nk_iconst (v := 1) dL_law_1392 (by decide) ?_
  refine nk_iadd dL_law_1393 ?_
  refine nk_tldN (j := i + 1) dL_law_1394 hsc (lw_ix i 1) (by omega) (by omega) ?_
  refine nk_aload_n (i := 0) dL_law_1395 rfl rfl ?_
  refine nk_iload_n (i := 3) dL_law_1396 rfl rfl ?_
  refine nk_iconst (v := 2) dL_law_1397 (by decide) ?_
  refine nk_iadd dL_law_1398 ?_
  refine nk_tldN (j := i + 2) dL_law_1399 hsc (lw_ix i 2) (by omega) (by omega) ?_
  refine nk_aload_n (i := 0) dL_law_1400 rfl rfl ?_
  refine nk_iload_n (i := 3) dL_law_1401 rfl rfl ?_
  refine nk_iconst (v := 3) dL_law_1402 (by decide) ?_
  refine nk_iadd dL_law_1403 ?_
  refine nk_tldN (j := i + 3) dL_law_1404 hsc (lw_ix i 3) (by omega) (by omega) ?_
  refine nk_cV (bc' := bc) (bs' := bs) kL_150 (((s_X8_cover hi hW.ms.1).frame hd2.symm).to (nk_o_comm hd2)) dL_law_1405 hfm rfl rfl (by decide) (Nat.le_of_ble_eq_true rfl) ⟨by omega, by omega⟩ (fun rr H2 hr => ?_)
  obtain ⟨H3, ⟨rfl, rfl⟩, hd3, rfl⟩ := hr
  refine nk_icmpeq (tgt := 1747) dL_law_1408 (by decide) (fun _ => ?_) (fun h1408 => by first | exact absurd (rfl) h1408 | exact absurd h1408 (rfl))
  refine nk_J.to ?_ rfl rfl (nk_o_comm hd3)
  exact kk _ _ _ _ _ _ _ _ _ hd3.symm hW
set_option maxRecDepth 20000 in
theorem lo_33 {nm : String} {G : nk_EG} (hG : nk_GS G) {s0 L : Nat} {xs : Nat → Int32} (hsc : G.2.2.1 s0 = some (L, xs)) (hL : L ≤ 3072) {i : Nat} (hiL : i + 6 ≤ L) {ad : Nat → Nat} (hi : mInj ad) {K : nk_AH} {g : Nat → Nat} {o m b u l t : Nat} {A : Nat → Nat → Int32} {I : Nat → Int32} (hd : nk_dj K (mh ad A I)) (hW : cW K g o A I m b u l t) {bc bs : Nat} {Φ : Option Value → nk_AH → Prop} (kk : ∀ (K2 : nk_AH) (g2 : Nat → Nat) (A2 : Nat → Nat → Int32) (I2 : Nat → Int32) (m2 b2 u2 l2 t2 : Nat), nk_dj K2 (mh ad A2 I2) → cW K2 g2 o A2 I2 m2 b2 u2 l2 t2 → nk_J G (mL nm) 20 Φ bc bs 1747 [some (.ref s0), some (.ref o), some (.ref (ad 0)), some (.int (nI i))] [] (nk_o K2 (mh ad A2 I2))) : nk_J G (mL nm) 20 Φ (bc + 14) (bs + 240) 1413 [some (.ref s0), some (.ref o), some (.ref (ad 0)), some (.int (nI i))] [] (nk_o K (mh ad A I)) := by
  obtain ⟨fo, hfo⟩ := hW.o
  have hWn := hW.1
  refine nk_aload_n (i := 1) dL_law_1413 rfl rfl ?_
  refine nk_aload_n (i := 0) dL_law_1414 rfl rfl ?_
  refine nk_iload_n (i := 3) dL_law_1415 rfl rfl ?_
  refine nk_iconst (v := 1) dL_law_1416 (by decide) ?_
  refine nk_iadd dL_law_1417 ?_
  refine nk_tldN (j := i + 1) dL_law_1418 hsc (lw_ix i 1) (by omega) (by omega) ?_
  refine nk_aload_n (i := 0) dL_law_1419 rfl rfl ?_
  refine nk_iload_n (i := 3) dL_law_1420 rfl rfl ?_
  refine nk_iconst (v := 2) dL_law_1421 (by decide) ?_
  refine nk_iadd dL_law_1422 ?_
  refine nk_tldN (j := i + 2) dL_law_1423 hsc (lw_ix i 2) (by omega) (by omega) ?_
  refine nk_cV (bc' := bc) (bs' := bs) kL_151 ((s_X7_gap hW.V).frame hd) dL_law_1424 (lw_o hfo) rfl rfl (by decide) (Nat.le_of_ble_eq_true rfl) ⟨by omega, by omega⟩ (fun rr H2 hr => ?_)
  obtain ⟨K2, ⟨rfl, rfl⟩, hd2, rfl⟩ := hr
  obtain ⟨fm, hfm⟩ := lw_m hd2
  refine nk_aload_n (i := 2) dL_law_1427 rfl rfl ?_
  refine nk_aload_n (i := 0) dL_law_1428 rfl rfl ?_
  refine nk_iload_n (i := 3) dL_law_1429 rfl rfl ?_
  refine nk_iconst (v := 1) dL_law_1430 (by decide) ?_
  refine nk_iadd dL_law_1431 ?_
  refine nk_tldN (j := i + 1) dL_law_1432 hsc (lw_ix i 1) (by omega) (by omega) ?_
  refine nk_aload_n (i := 0) dL_law_1433 rfl rfl ?_
  refine nk_iload_n (i := 3) dL_law_1434 rfl rfl ?_
  refine nk_iconst (v := 2) dL_law_1435 (by decide) ?_
  refine nk_iadd dL_law_1436 ?_
  refine nk_tldN (j := i + 2) dL_law_1437 hsc (lw_ix i 2) (by omega) (by omega) ?_
  refine nk_cV (bc' := bc) (bs' := bs) kL_154 (((s_X8_gap hi hW.ms.1).frame hd2.symm).to (nk_o_comm hd2)) dL_law_1438 hfm rfl rfl (by decide) (Nat.le_of_ble_eq_true rfl) ⟨by omega, by omega⟩ (fun rr H2 hr => ?_)
  obtain ⟨H3, ⟨rfl, rfl⟩, hd3, rfl⟩ := hr
  refine nk_icmpeq (tgt := 1747) dL_law_1441 (by decide) (fun _ => ?_) (fun h1441 => by first | exact absurd (rfl) h1441 | exact absurd h1441 (rfl))
  refine nk_J.to ?_ rfl rfl (nk_o_comm hd3)
  exact kk _ _ _ _ _ _ _ _ _ hd3.symm hW
set_option maxRecDepth 20000 in
theorem lo_34 {nm : String} {G : nk_EG} (hG : nk_GS G) {s0 L : Nat} {xs : Nat → Int32} (hsc : G.2.2.1 s0 = some (L, xs)) (hL : L ≤ 3072) {i : Nat} (hiL : i + 6 ≤ L) {ad : Nat → Nat} (hi : mInj ad) {K : nk_AH} {g : Nat → Nat} {o m b u l t : Nat} {A : Nat → Nat → Int32} {I : Nat → Int32} (hd : nk_dj K (mh ad A I)) (hW : cW K g o A I m b u l t) {bc bs : Nat} {Φ : Option Value → nk_AH → Prop} (kk : ∀ (K2 : nk_AH) (g2 : Nat → Nat) (A2 : Nat → Nat → Int32) (I2 : Nat → Int32) (m2 b2 u2 l2 t2 : Nat), nk_dj K2 (mh ad A2 I2) → cW K2 g2 o A2 I2 m2 b2 u2 l2 t2 → nk_J G (mL nm) 20 Φ bc bs 1747 [some (.ref s0), some (.ref o), some (.ref (ad 0)), some (.int (nI i))] [] (nk_o K2 (mh ad A2 I2))) : nk_J G (mL nm) 20 Φ (bc + 14) (bs + 240) 1446 [some (.ref s0), some (.ref o), some (.ref (ad 0)), some (.int (nI i))] [] (nk_o K (mh ad A I)) := by
  obtain ⟨fo, hfo⟩ := hW.o
  have hWn := hW.1
  refine nk_aload_n (i := 1) dL_law_1446 rfl rfl ?_
  refine nk_aload_n (i := 0) dL_law_1447 rfl rfl ?_
  refine nk_iload_n (i := 3) dL_law_1448 rfl rfl ?_
  refine nk_iconst (v := 1) dL_law_1449 (by decide) ?_
  refine nk_iadd dL_law_1450 ?_
  refine nk_tldN (j := i + 1) dL_law_1451 hsc (lw_ix i 1) (by omega) (by omega) ?_
  refine nk_aload_n (i := 0) dL_law_1452 rfl rfl ?_
  refine nk_iload_n (i := 3) dL_law_1453 rfl rfl ?_
  refine nk_iconst (v := 2) dL_law_1454 (by decide) ?_
  refine nk_iadd dL_law_1455 ?_
  refine nk_tldN (j := i + 2) dL_law_1456 hsc (lw_ix i 2) (by omega) (by omega) ?_
  refine nk_aload_n (i := 0) dL_law_1457 rfl rfl ?_
  refine nk_iload_n (i := 3) dL_law_1458 rfl rfl ?_
  refine nk_iconst (v := 3) dL_law_1459 (by decide) ?_
  refine nk_iadd dL_law_1460 ?_
  refine nk_tldN (j := i + 3) dL_law_1461 hsc (lw_ix i 3) (by omega) (by omega) ?_
  refine nk_aload_n (i := 0) dL_law_1462 rfl rfl ?_
  refine nk_iload_n (i := 3) dL_law_1463 rfl rfl ?_
  refine nk_iconst (v := 4) dL_law_1464 (by decide) ?_
  refine nk_iadd dL_law_1465 ?_
  refine nk_tldN (j := i + 4) dL_law_1466 hsc (lw_ix i 4) (by omega) (by omega) ?_
  refine nk_aload_n (i := 0) dL_law_1467 rfl rfl ?_
  refine nk_iload_n (i := 3) dL_law_1468 rfl rfl ?_
  refine nk_iconst (v := 5) dL_law_1469 (by decide) ?_
  refine nk_iadd dL_law_1470 ?_
  refine nk_tldN (j := i + 5) dL_law_1471 hsc (lw_ix i 5) (by omega) (by omega) ?_
  refine nk_cV (bc' := bc) (bs' := bs) kL_155 ((s_X7_likely hW.V).frame hd) dL_law_1472 (lw_o hfo) rfl rfl (by decide) (Nat.le_of_ble_eq_true rfl) ⟨by omega, by omega⟩ (fun rr H2 hr => ?_)
  obtain ⟨K2, ⟨rfl, rfl⟩, hd2, rfl⟩ := hr
  obtain ⟨fm, hfm⟩ := lw_m hd2
  refine nk_aload_n (i := 2) dL_law_1475 rfl rfl ?_
  refine nk_aload_n (i := 0) dL_law_1476 rfl rfl ?_
  refine nk_iload_n (i := 3) dL_law_1477 rfl rfl ?_
  refine nk_iconst (v := 1) dL_law_1478 (by decide) ?_
  refine nk_iadd dL_law_1479 ?_
  refine nk_tldN (j := i + 1) dL_law_1480 hsc (lw_ix i 1) (by omega) (by omega) ?_
  refine nk_aload_n (i := 0) dL_law_1481 rfl rfl ?_
  refine nk_iload_n (i := 3) dL_law_1482 rfl rfl ?_
  refine nk_iconst (v := 2) dL_law_1483 (by decide) ?_
  refine nk_iadd dL_law_1484 ?_
  refine nk_tldN (j := i + 2) dL_law_1485 hsc (lw_ix i 2) (by omega) (by omega) ?_
  refine nk_aload_n (i := 0) dL_law_1486 rfl rfl ?_
  refine nk_iload_n (i := 3) dL_law_1487 rfl rfl ?_
  refine nk_iconst (v := 3) dL_law_1488 (by decide) ?_
  refine nk_iadd dL_law_1489 ?_
  refine nk_tldN (j := i + 3) dL_law_1490 hsc (lw_ix i 3) (by omega) (by omega) ?_
  refine nk_aload_n (i := 0) dL_law_1491 rfl rfl ?_
  refine nk_iload_n (i := 3) dL_law_1492 rfl rfl ?_
  refine nk_iconst (v := 4) dL_law_1493 (by decide) ?_
  refine nk_iadd dL_law_1494 ?_
  refine nk_tldN (j := i + 4) dL_law_1495 hsc (lw_ix i 4) (by omega) (by omega) ?_
  refine nk_aload_n (i := 0) dL_law_1496 rfl rfl ?_
  refine nk_iload_n (i := 3) dL_law_1497 rfl rfl ?_
  refine nk_iconst (v := 5) dL_law_1498 (by decide) ?_
  refine nk_iadd dL_law_1499 ?_
  refine nk_tldN (j := i + 5) dL_law_1500 hsc (lw_ix i 5) (by omega) (by omega) ?_
  refine nk_cV (bc' := bc) (bs' := bs) kL_159 (((s_X8_likely hi hW.ms.1).frame hd2.symm).to (nk_o_comm hd2)) dL_law_1501 hfm rfl rfl (by decide) (Nat.le_of_ble_eq_true rfl) ⟨by omega, by omega⟩ (fun rr H2 hr => ?_)
  obtain ⟨H3, ⟨rfl, rfl⟩, hd3, rfl⟩ := hr
  refine nk_lcmp dL_law_1504 ?_
  refine nk_ifeq (tgt := 1747) dL_law_1505 (by decide) (fun _ => ?_) (fun h1505 => by first | exact absurd ((lg_cmp_eq _ _).mpr rfl) h1505 | exact absurd h1505 ((lg_cmp_eq _ _).mpr rfl))
  refine nk_J.to ?_ rfl rfl (nk_o_comm hd3)
  exact kk _ _ _ _ _ _ _ _ _ hd3.symm hW
set_option maxRecDepth 20000 in
theorem lo_35 {nm : String} {G : nk_EG} (hG : nk_GS G) {s0 L : Nat} {xs : Nat → Int32} (hsc : G.2.2.1 s0 = some (L, xs)) (hL : L ≤ 3072) {i : Nat} (hiL : i + 6 ≤ L) {ad : Nat → Nat} (hi : mInj ad) {K : nk_AH} {g : Nat → Nat} {o m b u l t : Nat} {A : Nat → Nat → Int32} {I : Nat → Int32} (hd : nk_dj K (mh ad A I)) (hW : cW K g o A I m b u l t) {bc bs : Nat} {Φ : Option Value → nk_AH → Prop} (kk : ∀ (K2 : nk_AH) (g2 : Nat → Nat) (A2 : Nat → Nat → Int32) (I2 : Nat → Int32) (m2 b2 u2 l2 t2 : Nat), nk_dj K2 (mh ad A2 I2) → cW K2 g2 o A2 I2 m2 b2 u2 l2 t2 → nk_J G (mL nm) 20 Φ bc bs 1747 [some (.ref s0), some (.ref o), some (.ref (ad 0)), some (.int (nI i))] [] (nk_o K2 (mh ad A2 I2))) : nk_J G (mL nm) 20 Φ (bc + 14) (bs + 240) 1510 [some (.ref s0), some (.ref o), some (.ref (ad 0)), some (.int (nI i))] [] (nk_o K (mh ad A I)) := by
  obtain ⟨fo, hfo⟩ := hW.o
  have hWn := hW.1
  refine nk_aload_n (i := 1) dL_law_1510 rfl rfl ?_
  refine nk_aload_n (i := 0) dL_law_1511 rfl rfl ?_
  refine nk_iload_n (i := 3) dL_law_1512 rfl rfl ?_
  refine nk_iconst (v := 1) dL_law_1513 (by decide) ?_
  refine nk_iadd dL_law_1514 ?_
  refine nk_tldN (j := i + 1) dL_law_1515 hsc (lw_ix i 1) (by omega) (by omega) ?_
  refine nk_aload_n (i := 0) dL_law_1516 rfl rfl ?_
  refine nk_iload_n (i := 3) dL_law_1517 rfl rfl ?_
  refine nk_iconst (v := 2) dL_law_1518 (by decide) ?_
  refine nk_iadd dL_law_1519 ?_
  refine nk_tldN (j := i + 2) dL_law_1520 hsc (lw_ix i 2) (by omega) (by omega) ?_
  refine nk_aload_n (i := 0) dL_law_1521 rfl rfl ?_
  refine nk_iload_n (i := 3) dL_law_1522 rfl rfl ?_
  refine nk_iconst (v := 3) dL_law_1523 (by decide) ?_
  refine nk_iadd dL_law_1524 ?_
  refine nk_tldN (j := i + 3) dL_law_1525 hsc (lw_ix i 3) (by omega) (by omega) ?_
  refine nk_cV (bc' := bc) (bs' := bs) kL_160 ((s_X7_drawn hW.V).frame hd) dL_law_1526 (lw_o hfo) rfl rfl (by decide) (Nat.le_of_ble_eq_true rfl) ⟨by omega, by omega⟩ (fun rr H2 hr => ?_)
  obtain ⟨K2, ⟨rfl, hle⟩, hd2, rfl⟩ := hr
  obtain ⟨fm, hfm⟩ := lw_m hd2
  refine nk_aload_n (i := 2) dL_law_1529 rfl rfl ?_
  refine nk_aload_n (i := 0) dL_law_1530 rfl rfl ?_
  refine nk_iload_n (i := 3) dL_law_1531 rfl rfl ?_
  refine nk_iconst (v := 1) dL_law_1532 (by decide) ?_
  refine nk_iadd dL_law_1533 ?_
  refine nk_tldN (j := i + 1) dL_law_1534 hsc (lw_ix i 1) (by omega) (by omega) ?_
  refine nk_aload_n (i := 0) dL_law_1535 rfl rfl ?_
  refine nk_iload_n (i := 3) dL_law_1536 rfl rfl ?_
  refine nk_iconst (v := 2) dL_law_1537 (by decide) ?_
  refine nk_iadd dL_law_1538 ?_
  refine nk_tldN (j := i + 2) dL_law_1539 hsc (lw_ix i 2) (by omega) (by omega) ?_
  refine nk_aload_n (i := 0) dL_law_1540 rfl rfl ?_
  refine nk_iload_n (i := 3) dL_law_1541 rfl rfl ?_
  refine nk_iconst (v := 3) dL_law_1542 (by decide) ?_
  refine nk_iadd dL_law_1543 ?_
  refine nk_tldN (j := i + 3) dL_law_1544 hsc (lw_ix i 3) (by omega) (by omega) ?_
  refine nk_cV (bc' := bc) (bs' := bs) kL_163 (((s_X8_drawn hi hW.ms.1 hW.ms.2.1).frame hd2.symm).to (nk_o_comm hd2)) dL_law_1545 hfm rfl rfl (by decide) (Nat.le_of_ble_eq_true rfl) ⟨by omega, by omega⟩ (fun rr H2 hr => ?_)
  obtain ⟨H3, ⟨rfl, rfl⟩, hd3, rfl⟩ := hr
  have hW2 := hW.le hle
  have hW3 : cW K2 g o (if c_drawn b (xs (i + 1)) (xs (i + 2)) (xs (i + 3)) then va_up A 0 (va_cpy (A 0) (A 0) 0 3618 134) else A) I m b u l t := by
    split
    · exact hW2.scr (fun j hj => (va_cpy_out (by omega)).symm)
    · exact hW2
  refine nk_icmpeq (tgt := 1747) dL_law_1548 (by decide) (fun _ => ?_) (fun h1548 => by first | exact absurd (rfl) h1548 | exact absurd h1548 (rfl))
  refine nk_J.to ?_ rfl rfl (nk_o_comm hd3)
  exact kk _ _ _ _ _ _ _ _ _ hd3.symm hW3
set_option maxRecDepth 20000 in
theorem lo_36 {nm : String} {G : nk_EG} (hG : nk_GS G) {s0 L : Nat} {xs : Nat → Int32} (hsc : G.2.2.1 s0 = some (L, xs)) (hL : L ≤ 3072) {i : Nat} (hiL : i + 6 ≤ L) {ad : Nat → Nat} (hi : mInj ad) {K : nk_AH} {g : Nat → Nat} {o m b u l t : Nat} {A : Nat → Nat → Int32} {I : Nat → Int32} (hd : nk_dj K (mh ad A I)) (hW : cW K g o A I m b u l t) {bc bs : Nat} {Φ : Option Value → nk_AH → Prop} (kk : ∀ (K2 : nk_AH) (g2 : Nat → Nat) (A2 : Nat → Nat → Int32) (I2 : Nat → Int32) (m2 b2 u2 l2 t2 : Nat), nk_dj K2 (mh ad A2 I2) → cW K2 g2 o A2 I2 m2 b2 u2 l2 t2 → nk_J G (mL nm) 20 Φ bc bs 1747 [some (.ref s0), some (.ref o), some (.ref (ad 0)), some (.int (nI i))] [] (nk_o K2 (mh ad A2 I2))) : nk_J G (mL nm) 20 Φ (bc + 14) (bs + 240) 1553 [some (.ref s0), some (.ref o), some (.ref (ad 0)), some (.int (nI i))] [] (nk_o K (mh ad A I)) := by
  obtain ⟨fo, hfo⟩ := hW.o
  have hWn := hW.1
  refine nk_aload_n (i := 1) dL_law_1553 rfl rfl ?_
  refine nk_aload_n (i := 0) dL_law_1554 rfl rfl ?_
  refine nk_iload_n (i := 3) dL_law_1555 rfl rfl ?_
  refine nk_iconst (v := 1) dL_law_1556 (by decide) ?_
  refine nk_iadd dL_law_1557 ?_
  refine nk_tldN (j := i + 1) dL_law_1558 hsc (lw_ix i 1) (by omega) (by omega) ?_
  refine nk_cV (bc' := bc) (bs' := bs) kL_164 ((s_X7_image hW).frame hd) dL_law_1559 (lw_o hfo) rfl rfl (by decide) (Nat.le_of_ble_eq_true rfl) ⟨by omega, by omega⟩ (fun rr H2 hr => ?_)
  obtain ⟨K2, ⟨rfl, g2, m2, b2, u2, l2, t2, hW2⟩, hd2, rfl⟩ := hr
  obtain ⟨fm, hfm⟩ := lw_m hd2
  refine nk_aload_n (i := 2) dL_law_1562 rfl rfl ?_
  refine nk_aload_n (i := 0) dL_law_1563 rfl rfl ?_
  refine nk_iload_n (i := 3) dL_law_1564 rfl rfl ?_
  refine nk_iconst (v := 1) dL_law_1565 (by decide) ?_
  refine nk_iadd dL_law_1566 ?_
  refine nk_tldN (j := i + 1) dL_law_1567 hsc (lw_ix i 1) (by omega) (by omega) ?_
  refine nk_cV (bc' := bc) (bs' := bs) kL_167 (((s_X8_image hi hW.ms.1).frame hd2.symm).to (nk_o_comm hd2)) dL_law_1568 hfm rfl rfl (by decide) (Nat.le_of_ble_eq_true rfl) ⟨by omega, by omega⟩ (fun rr H2 hr => ?_)
  obtain ⟨H3, ⟨rfl, rfl⟩, hd3, rfl⟩ := hr
  refine nk_icmpeq (tgt := 1747) dL_law_1571 (by decide) (fun _ => ?_) (fun h1571 => by first | exact absurd (rfl) h1571 | exact absurd h1571 (rfl))
  refine nk_J.to ?_ rfl rfl (nk_o_comm hd3)
  exact kk _ _ _ _ _ _ _ _ _ hd3.symm hW2

/-! the law: calls -/
theorem lw_ix (i a : Nat) : nI i + nI a = nI (i + a) := nI_add i a
set_option maxRecDepth 20000 in
theorem lo_0 {nm : String} {G : nk_EG} (hG : nk_GS G) {s0 L : Nat} {xs : Nat → Int32} (hsc : G.2.2.1 s0 = some (L, xs)) (hL : L ≤ 3072) {i : Nat} (hiL : i + 6 ≤ L) {ad : Nat → Nat} (hi : mInj ad) {K : nk_AH} {g : Nat → Nat} {o m b u l t : Nat} {A : Nat → Nat → Int32} {I : Nat → Int32} (hd : nk_dj K (mh ad A I)) (hW : cW K g o A I m b u l t) {bc bs : Nat} {Φ : Option Value → nk_AH → Prop} (kk : ∀ (K2 : nk_AH) (g2 : Nat → Nat) (A2 : Nat → Nat → Int32) (I2 : Nat → Int32) (m2 b2 u2 l2 t2 : Nat), nk_dj K2 (mh ad A2 I2) → cW K2 g2 o A2 I2 m2 b2 u2 l2 t2 → nk_J G (mL nm) 20 Φ bc bs 1747 [some (.ref s0), some (.ref o), some (.ref (ad 0)), some (.int (nI i))] [] (nk_o K2 (mh ad A2 I2))) : nk_J G (mL nm) 20 Φ (bc + 14) (bs + 240) 224 [some (.ref s0), some (.ref o), some (.ref (ad 0)), some (.int (nI i))] [] (nk_o K (mh ad A I)) := by
  obtain ⟨fo, hfo⟩ := hW.o
  have hWn := hW.1
  refine nk_aload_n (i := 1) dL_law_224 rfl rfl ?_
  refine nk_aload_n (i := 0) dL_law_225 rfl rfl ?_
  refine nk_iload_n (i := 3) dL_law_226 rfl rfl ?_
  refine nk_iconst (v := 1) dL_law_227 (by decide) ?_
  refine nk_iadd dL_law_228 ?_
  refine nk_tldN (j := i + 1) dL_law_229 hsc (lw_ix i 1) (by omega) (by omega) ?_
  refine nk_aload_n (i := 0) dL_law_230 rfl rfl ?_
  refine nk_iload_n (i := 3) dL_law_231 rfl rfl ?_
  refine nk_iconst (v := 2) dL_law_232 (by decide) ?_
  refine nk_iadd dL_law_233 ?_
  refine nk_tldN (j := i + 2) dL_law_234 hsc (lw_ix i 2) (by omega) (by omega) ?_
  refine nk_aload_n (i := 0) dL_law_235 rfl rfl ?_
  refine nk_iload_n (i := 3) dL_law_236 rfl rfl ?_
  refine nk_iconst (v := 3) dL_law_237 (by decide) ?_
  refine nk_iadd dL_law_238 ?_
  refine nk_tldN (j := i + 3) dL_law_239 hsc (lw_ix i 3) (by omega) (by omega) ?_
  refine nk_cV (bc' := bc) (bs' := bs) kL_13 ((s_X7_row hW).frame hd) dL_law_240 (lw_o hfo) rfl rfl (by decide) (Nat.le_of_ble_eq_true rfl) ⟨by omega, by omega⟩ (fun rr H2 hr => ?_)
  obtain ⟨K2, ⟨rfl, g2, m2, b2, u2, l2, t2, hW2⟩, hd2, rfl⟩ := hr
  obtain ⟨fm, hfm⟩ := lw_m hd2
  refine nk_aload_n (i := 2) dL_law_243 rfl rfl ?_
  refine nk_aload_n (i := 0) dL_law_244 rfl rfl ?_
  refine nk_iload_n (i := 3) dL_law_245 rfl rfl ?_
  refine nk_iconst (v := 1) dL_law_246 (by decide) ?_
  refine nk_iadd dL_law_247 ?_
  refine nk_tldN (j := i + 1) dL_law_248 hsc (lw_ix i 1) (by omega) (by omega) ?_
  refine nk_aload_n (i := 0) dL_law_249 rfl rfl ?_
  refine nk_iload_n (i := 3) dL_law_250 rfl rfl ?_
  refine nk_iconst (v := 2) dL_law_251 (by decide) ?_
  refine nk_iadd dL_law_252 ?_
  refine nk_tldN (j := i + 2) dL_law_253 hsc (lw_ix i 2) (by omega) (by omega) ?_
  refine nk_aload_n (i := 0) dL_law_254 rfl rfl ?_
  refine nk_iload_n (i := 3) dL_law_255 rfl rfl ?_
  refine nk_iconst (v := 3) dL_law_256 (by decide) ?_
  refine nk_iadd dL_law_257 ?_
  refine nk_tldN (j := i + 3) dL_law_258 hsc (lw_ix i 3) (by omega) (by omega) ?_
  refine nk_cV (bc' := bc) (bs' := bs) kL_17 (((s_X8_row hi).frame hd2.symm).to (nk_o_comm hd2)) dL_law_259 hfm rfl rfl (by decide) (Nat.le_of_ble_eq_true rfl) ⟨by omega, by omega⟩ (fun rr H2 hr => ?_)
  obtain ⟨H3, ⟨rfl, rfl⟩, hd3, rfl⟩ := hr
  refine nk_icmpeq (tgt := 1747) dL_law_262 (by decide) (fun _ => ?_) (fun h262 => by first | exact absurd (rfl) h262 | exact absurd h262 (rfl))
  refine nk_J.to ?_ rfl rfl (nk_o_comm hd3)
  exact kk _ _ _ _ _ _ _ _ _ hd3.symm hW2
set_option maxRecDepth 20000 in
theorem lo_1 {nm : String} {G : nk_EG} (hG : nk_GS G) {s0 L : Nat} {xs : Nat → Int32} (hsc : G.2.2.1 s0 = some (L, xs)) (hL : L ≤ 3072) {i : Nat} (hiL : i + 6 ≤ L) {ad : Nat → Nat} (hi : mInj ad) {K : nk_AH} {g : Nat → Nat} {o m b u l t : Nat} {A : Nat → Nat → Int32} {I : Nat → Int32} (hd : nk_dj K (mh ad A I)) (hW : cW K g o A I m b u l t) {bc bs : Nat} {Φ : Option Value → nk_AH → Prop} (kk : ∀ (K2 : nk_AH) (g2 : Nat → Nat) (A2 : Nat → Nat → Int32) (I2 : Nat → Int32) (m2 b2 u2 l2 t2 : Nat), nk_dj K2 (mh ad A2 I2) → cW K2 g2 o A2 I2 m2 b2 u2 l2 t2 → nk_J G (mL nm) 20 Φ bc bs 1747 [some (.ref s0), some (.ref o), some (.ref (ad 0)), some (.int (nI i))] [] (nk_o K2 (mh ad A2 I2))) : nk_J G (mL nm) 20 Φ (bc + 14) (bs + 240) 267 [some (.ref s0), some (.ref o), some (.ref (ad 0)), some (.int (nI i))] [] (nk_o K (mh ad A I)) := by
  obtain ⟨fo, hfo⟩ := hW.o
  have hWn := hW.1
  refine nk_aload_n (i := 1) dL_law_267 rfl rfl ?_
  refine nk_aload_n (i := 0) dL_law_268 rfl rfl ?_
  refine nk_iload_n (i := 3) dL_law_269 rfl rfl ?_
  refine nk_iconst (v := 1) dL_law_270 (by decide) ?_
  refine nk_iadd dL_law_271 ?_
  refine nk_tldN (j := i + 1) dL_law_272 hsc (lw_ix i 1) (by omega) (by omega) ?_
  refine nk_aload_n (i := 0) dL_law_273 rfl rfl ?_
  refine nk_iload_n (i := 3) dL_law_274 rfl rfl ?_
  refine nk_iconst (v := 2) dL_law_275 (by decide) ?_
  refine nk_iadd dL_law_276 ?_
  refine nk_tldN (j := i + 2) dL_law_277 hsc (lw_ix i 2) (by omega) (by omega) ?_
  refine nk_aload_n (i := 0) dL_law_278 rfl rfl ?_
  refine nk_iload_n (i := 3) dL_law_279 rfl rfl ?_
  refine nk_iconst (v := 3) dL_law_280 (by decide) ?_
  refine nk_iadd dL_law_281 ?_
  refine nk_tldN (j := i + 3) dL_law_282 hsc (lw_ix i 3) (by omega) (by omega) ?_
  refine nk_cV (bc' := bc) (bs' := bs) kL_18 ((s_X7_set hW).frame hd) dL_law_283 (lw_o hfo) rfl rfl (by decide) (Nat.le_of_ble_eq_true rfl) ⟨by omega, by omega⟩ (fun rr H2 hr => ?_)
  obtain ⟨K2, ⟨rfl, g2, m2, b2, u2, l2, t2, hW2⟩, hd2, rfl⟩ := hr
  obtain ⟨fm, hfm⟩ := lw_m hd2
  refine nk_aload_n (i := 2) dL_law_286 rfl rfl ?_
  refine nk_aload_n (i := 0) dL_law_287 rfl rfl ?_
  refine nk_iload_n (i := 3) dL_law_288 rfl rfl ?_
  refine nk_iconst (v := 1) dL_law_289 (by decide) ?_
  refine nk_iadd dL_law_290 ?_
  refine nk_tldN (j := i + 1) dL_law_291 hsc (lw_ix i 1) (by omega) (by omega) ?_
  refine nk_aload_n (i := 0) dL_law_292 rfl rfl ?_
  refine nk_iload_n (i := 3) dL_law_293 rfl rfl ?_
  refine nk_iconst (v := 2) dL_law_294 (by decide) ?_
  refine nk_iadd dL_law_295 ?_
  refine nk_tldN (j := i + 2) dL_law_296 hsc (lw_ix i 2) (by omega) (by omega) ?_
  refine nk_aload_n (i := 0) dL_law_297 rfl rfl ?_
  refine nk_iload_n (i := 3) dL_law_298 rfl rfl ?_
  refine nk_iconst (v := 3) dL_law_299 (by decide) ?_
  refine nk_iadd dL_law_300 ?_
  refine nk_tldN (j := i + 3) dL_law_301 hsc (lw_ix i 3) (by omega) (by omega) ?_
  refine nk_cV (bc' := bc) (bs' := bs) kL_21 (((s_X8_set hi hWn.1).frame hd2.symm).to (nk_o_comm hd2)) dL_law_302 hfm rfl rfl (by decide) (Nat.le_of_ble_eq_true rfl) ⟨by omega, by omega⟩ (fun rr H2 hr => ?_)
  obtain ⟨H3, ⟨rfl, rfl⟩, hd3, rfl⟩ := hr
  refine nk_icmpeq (tgt := 1747) dL_law_305 (by decide) (fun _ => ?_) (fun h305 => by first | exact absurd (rfl) h305 | exact absurd h305 (rfl))
  refine nk_J.to ?_ rfl rfl (nk_o_comm hd3)
  exact kk _ _ _ _ _ _ _ _ _ hd3.symm hW2
set_option maxRecDepth 20000 in
theorem lo_2 {nm : String} {G : nk_EG} (hG : nk_GS G) {s0 L : Nat} {xs : Nat → Int32} (hsc : G.2.2.1 s0 = some (L, xs)) (hL : L ≤ 3072) {i : Nat} (hiL : i + 6 ≤ L) {ad : Nat → Nat} (hi : mInj ad) {K : nk_AH} {g : Nat → Nat} {o m b u l t : Nat} {A : Nat → Nat → Int32} {I : Nat → Int32} (hd : nk_dj K (mh ad A I)) (hW : cW K g o A I m b u l t) {bc bs : Nat} {Φ : Option Value → nk_AH → Prop} (kk : ∀ (K2 : nk_AH) (g2 : Nat → Nat) (A2 : Nat → Nat → Int32) (I2 : Nat → Int32) (m2 b2 u2 l2 t2 : Nat), nk_dj K2 (mh ad A2 I2) → cW K2 g2 o A2 I2 m2 b2 u2 l2 t2 → nk_J G (mL nm) 20 Φ bc bs 1747 [some (.ref s0), some (.ref o), some (.ref (ad 0)), some (.int (nI i))] [] (nk_o K2 (mh ad A2 I2))) : nk_J G (mL nm) 20 Φ (bc + 14) (bs + 240) 310 [some (.ref s0), some (.ref o), some (.ref (ad 0)), some (.int (nI i))] [] (nk_o K (mh ad A I)) := by
  obtain ⟨fo, hfo⟩ := hW.o
  have hWn := hW.1
  refine nk_aload_n (i := 1) dL_law_310 rfl rfl ?_
  refine nk_aload_n (i := 0) dL_law_311 rfl rfl ?_
  refine nk_iload_n (i := 3) dL_law_312 rfl rfl ?_
  refine nk_iconst (v := 1) dL_law_313 (by decide) ?_
  refine nk_iadd dL_law_314 ?_
  refine nk_tldN (j := i + 1) dL_law_315 hsc (lw_ix i 1) (by omega) (by omega) ?_
  refine nk_aload_n (i := 0) dL_law_316 rfl rfl ?_
  refine nk_iload_n (i := 3) dL_law_317 rfl rfl ?_
  refine nk_iconst (v := 2) dL_law_318 (by decide) ?_
  refine nk_iadd dL_law_319 ?_
  refine nk_tldN (j := i + 2) dL_law_320 hsc (lw_ix i 2) (by omega) (by omega) ?_
  refine nk_aload_n (i := 0) dL_law_321 rfl rfl ?_
  refine nk_iload_n (i := 3) dL_law_322 rfl rfl ?_
  refine nk_iconst (v := 3) dL_law_323 (by decide) ?_
  refine nk_iadd dL_law_324 ?_
  refine nk_tldN (j := i + 3) dL_law_325 hsc (lw_ix i 3) (by omega) (by omega) ?_
  refine nk_aload_n (i := 0) dL_law_326 rfl rfl ?_
  refine nk_iload_n (i := 3) dL_law_327 rfl rfl ?_
  refine nk_iconst (v := 4) dL_law_328 (by decide) ?_
  refine nk_iadd dL_law_329 ?_
  refine nk_tldN (j := i + 4) dL_law_330 hsc (lw_ix i 4) (by omega) (by omega) ?_
  refine nk_aload_n (i := 0) dL_law_331 rfl rfl ?_
  refine nk_iload_n (i := 3) dL_law_332 rfl rfl ?_
  refine nk_iconst (v := 5) dL_law_333 (by decide) ?_
  refine nk_iadd dL_law_334 ?_
  refine nk_tldN (j := i + 5) dL_law_335 hsc (lw_ix i 5) (by omega) (by omega) ?_
  refine nk_cV (bc' := bc) (bs' := bs) kL_22 ((s_X7_copy hW).frame hd) dL_law_336 (lw_o hfo) rfl rfl (by decide) (Nat.le_of_ble_eq_true rfl) ⟨by omega, by omega⟩ (fun rr H2 hr => ?_)
  obtain ⟨K2, ⟨rfl, g2, m2, b2, u2, l2, t2, hW2⟩, hd2, rfl⟩ := hr
  obtain ⟨fm, hfm⟩ := lw_m hd2
  refine nk_aload_n (i := 2) dL_law_339 rfl rfl ?_
  refine nk_aload_n (i := 0) dL_law_340 rfl rfl ?_
  refine nk_iload_n (i := 3) dL_law_341 rfl rfl ?_
  refine nk_iconst (v := 1) dL_law_342 (by decide) ?_
  refine nk_iadd dL_law_343 ?_
  refine nk_tldN (j := i + 1) dL_law_344 hsc (lw_ix i 1) (by omega) (by omega) ?_
  refine nk_aload_n (i := 0) dL_law_345 rfl rfl ?_
  refine nk_iload_n (i := 3) dL_law_346 rfl rfl ?_
  refine nk_iconst (v := 2) dL_law_347 (by decide) ?_
  refine nk_iadd dL_law_348 ?_
  refine nk_tldN (j := i + 2) dL_law_349 hsc (lw_ix i 2) (by omega) (by omega) ?_
  refine nk_aload_n (i := 0) dL_law_350 rfl rfl ?_
  refine nk_iload_n (i := 3) dL_law_351 rfl rfl ?_
  refine nk_iconst (v := 3) dL_law_352 (by decide) ?_
  refine nk_iadd dL_law_353 ?_
  refine nk_tldN (j := i + 3) dL_law_354 hsc (lw_ix i 3) (by omega) (by omega) ?_
  refine nk_aload_n (i := 0) dL_law_355 rfl rfl ?_
  refine nk_iload_n (i := 3) dL_law_356 rfl rfl ?_
  refine nk_iconst (v := 4) dL_law_357 (by decide) ?_
  refine nk_iadd dL_law_358 ?_
  refine nk_tldN (j := i + 4) dL_law_359 hsc (lw_ix i 4) (by omega) (by omega) ?_
  refine nk_aload_n (i := 0) dL_law_360 rfl rfl ?_
  refine nk_iload_n (i := 3) dL_law_361 rfl rfl ?_
  refine nk_iconst (v := 5) dL_law_362 (by decide) ?_
  refine nk_iadd dL_law_363 ?_
  refine nk_tldN (j := i + 5) dL_law_364 hsc (lw_ix i 5) (by omega) (by omega) ?_
  refine nk_cV (bc' := bc) (bs' := bs) kL_26 (((s_X8_copy hi hWn.1).frame hd2.symm).to (nk_o_comm hd2)) dL_law_365 hfm rfl rfl (by decide) (Nat.le_of_ble_eq_true rfl) ⟨by omega, by omega⟩ (fun rr H2 hr => ?_)
  obtain ⟨H3, ⟨rfl, rfl⟩, hd3, rfl⟩ := hr
  refine nk_icmpeq (tgt := 1747) dL_law_368 (by decide) (fun _ => ?_) (fun h368 => by first | exact absurd (rfl) h368 | exact absurd h368 (rfl))
  refine nk_J.to ?_ rfl rfl (nk_o_comm hd3)
  exact kk _ _ _ _ _ _ _ _ _ hd3.symm hW2
set_option maxRecDepth 20000 in
theorem lo_3 {nm : String} {G : nk_EG} (hG : nk_GS G) {s0 L : Nat} {xs : Nat → Int32} (hsc : G.2.2.1 s0 = some (L, xs)) (hL : L ≤ 3072) {i : Nat} (hiL : i + 6 ≤ L) {ad : Nat → Nat} (hi : mInj ad) {K : nk_AH} {g : Nat → Nat} {o m b u l t : Nat} {A : Nat → Nat → Int32} {I : Nat → Int32} (hd : nk_dj K (mh ad A I)) (hW : cW K g o A I m b u l t) {bc bs : Nat} {Φ : Option Value → nk_AH → Prop} (kk : ∀ (K2 : nk_AH) (g2 : Nat → Nat) (A2 : Nat → Nat → Int32) (I2 : Nat → Int32) (m2 b2 u2 l2 t2 : Nat), nk_dj K2 (mh ad A2 I2) → cW K2 g2 o A2 I2 m2 b2 u2 l2 t2 → nk_J G (mL nm) 20 Φ bc bs 1747 [some (.ref s0), some (.ref o), some (.ref (ad 0)), some (.int (nI i))] [] (nk_o K2 (mh ad A2 I2))) : nk_J G (mL nm) 20 Φ (bc + 14) (bs + 240) 373 [some (.ref s0), some (.ref o), some (.ref (ad 0)), some (.int (nI i))] [] (nk_o K (mh ad A I)) := by
  obtain ⟨fo, hfo⟩ := hW.o
  have hWn := hW.1
  refine nk_aload_n (i := 1) dL_law_373 rfl rfl ?_
  refine nk_aload_n (i := 0) dL_law_374 rfl rfl ?_
  refine nk_iload_n (i := 3) dL_law_375 rfl rfl ?_
  refine nk_iconst (v := 1) dL_law_376 (by decide) ?_
  refine nk_iadd dL_law_377 ?_
  refine nk_tldN (j := i + 1) dL_law_378 hsc (lw_ix i 1) (by omega) (by omega) ?_
  refine nk_cV (bc' := bc) (bs' := bs) kL_27 ((s_X7_drop hW).frame hd) dL_law_379 (lw_o hfo) rfl rfl (by decide) (Nat.le_of_ble_eq_true rfl) ⟨by omega, by omega⟩ (fun rr H2 hr => ?_)
  obtain ⟨K2, ⟨rfl, g2, m2, b2, u2, l2, t2, hW2⟩, hd2, rfl⟩ := hr
  obtain ⟨fm, hfm⟩ := lw_m hd2
  refine nk_aload_n (i := 2) dL_law_382 rfl rfl ?_
  refine nk_aload_n (i := 0) dL_law_383 rfl rfl ?_
  refine nk_iload_n (i := 3) dL_law_384 rfl rfl ?_
  refine nk_iconst (v := 1) dL_law_385 (by decide) ?_
  refine nk_iadd dL_law_386 ?_
  refine nk_tldN (j := i + 1) dL_law_387 hsc (lw_ix i 1) (by omega) (by omega) ?_
  refine nk_cV (bc' := bc) (bs' := bs) kL_31 (((s_X8_drop hi).frame hd2.symm).to (nk_o_comm hd2)) dL_law_388 hfm rfl rfl (by decide) (Nat.le_of_ble_eq_true rfl) ⟨by omega, by omega⟩ (fun rr H2 hr => ?_)
  obtain ⟨H3, ⟨rfl, rfl⟩, hd3, rfl⟩ := hr
  refine nk_icmpeq (tgt := 1747) dL_law_391 (by decide) (fun _ => ?_) (fun h391 => by first | exact absurd (rfl) h391 | exact absurd h391 (rfl))
  refine nk_J.to ?_ rfl rfl (nk_o_comm hd3)
  exact kk _ _ _ _ _ _ _ _ _ hd3.symm hW2
set_option maxRecDepth 20000 in
theorem lo_4 {nm : String} {G : nk_EG} (hG : nk_GS G) {s0 L : Nat} {xs : Nat → Int32} (hsc : G.2.2.1 s0 = some (L, xs)) (hL : L ≤ 3072) {i : Nat} (hiL : i + 6 ≤ L) {ad : Nat → Nat} (hi : mInj ad) {K : nk_AH} {g : Nat → Nat} {o m b u l t : Nat} {A : Nat → Nat → Int32} {I : Nat → Int32} (hd : nk_dj K (mh ad A I)) (hW : cW K g o A I m b u l t) {bc bs : Nat} {Φ : Option Value → nk_AH → Prop} (kk : ∀ (K2 : nk_AH) (g2 : Nat → Nat) (A2 : Nat → Nat → Int32) (I2 : Nat → Int32) (m2 b2 u2 l2 t2 : Nat), nk_dj K2 (mh ad A2 I2) → cW K2 g2 o A2 I2 m2 b2 u2 l2 t2 → nk_J G (mL nm) 20 Φ bc bs 1747 [some (.ref s0), some (.ref o), some (.ref (ad 0)), some (.int (nI i))] [] (nk_o K2 (mh ad A2 I2))) : nk_J G (mL nm) 20 Φ (bc + 14) (bs + 240) 396 [some (.ref s0), some (.ref o), some (.ref (ad 0)), some (.int (nI i))] [] (nk_o K (mh ad A I)) := by
  obtain ⟨fo, hfo⟩ := hW.o
  have hWn := hW.1
  refine nk_aload_n (i := 1) dL_law_396 rfl rfl ?_
  refine nk_aload_n (i := 0) dL_law_397 rfl rfl ?_
  refine nk_iload_n (i := 3) dL_law_398 rfl rfl ?_
  refine nk_iconst (v := 1) dL_law_399 (by decide) ?_
  refine nk_iadd dL_law_400 ?_
  refine nk_tldN (j := i + 1) dL_law_401 hsc (lw_ix i 1) (by omega) (by omega) ?_
  refine nk_cV (bc' := bc) (bs' := bs) kL_32 ((s_X7_feed hW).frame hd) dL_law_402 (lw_o hfo) rfl rfl (by decide) (Nat.le_of_ble_eq_true rfl) ⟨by omega, by omega⟩ (fun rr H2 hr => ?_)
  obtain ⟨K2, ⟨rfl, g2, m2, b2, u2, l2, t2, hW2⟩, hd2, rfl⟩ := hr
  obtain ⟨fm, hfm⟩ := lw_m hd2
  refine nk_aload_n (i := 2) dL_law_405 rfl rfl ?_
  refine nk_aload_n (i := 0) dL_law_406 rfl rfl ?_
  refine nk_iload_n (i := 3) dL_law_407 rfl rfl ?_
  refine nk_iconst (v := 1) dL_law_408 (by decide) ?_
  refine nk_iadd dL_law_409 ?_
  refine nk_tldN (j := i + 1) dL_law_410 hsc (lw_ix i 1) (by omega) (by omega) ?_
  refine nk_cV (bc' := bc) (bs' := bs) kL_35 (((s_X8_feed hi hWn.2.2.2.1 hWn.2.2.2.2.1).frame hd2.symm).to (nk_o_comm hd2)) dL_law_411 hfm rfl rfl (by decide) (Nat.le_of_ble_eq_true rfl) ⟨by omega, by omega⟩ (fun rr H2 hr => ?_)
  obtain ⟨H3, ⟨rfl, rfl⟩, hd3, rfl⟩ := hr
  refine nk_icmpeq (tgt := 1747) dL_law_414 (by decide) (fun _ => ?_) (fun h414 => by first | exact absurd (rfl) h414 | exact absurd h414 (rfl))
  refine nk_J.to ?_ rfl rfl (nk_o_comm hd3)
  exact kk _ _ _ _ _ _ _ _ _ hd3.symm hW2
set_option maxRecDepth 20000 in
theorem lo_5 {nm : String} {G : nk_EG} (hG : nk_GS G) {s0 L : Nat} {xs : Nat → Int32} (hsc : G.2.2.1 s0 = some (L, xs)) (hL : L ≤ 3072) {i : Nat} (hiL : i + 6 ≤ L) {ad : Nat → Nat} (hi : mInj ad) {K : nk_AH} {g : Nat → Nat} {o m b u l t : Nat} {A : Nat → Nat → Int32} {I : Nat → Int32} (hd : nk_dj K (mh ad A I)) (hW : cW K g o A I m b u l t) {bc bs : Nat} {Φ : Option Value → nk_AH → Prop} (kk : ∀ (K2 : nk_AH) (g2 : Nat → Nat) (A2 : Nat → Nat → Int32) (I2 : Nat → Int32) (m2 b2 u2 l2 t2 : Nat), nk_dj K2 (mh ad A2 I2) → cW K2 g2 o A2 I2 m2 b2 u2 l2 t2 → nk_J G (mL nm) 20 Φ bc bs 1747 [some (.ref s0), some (.ref o), some (.ref (ad 0)), some (.int (nI i))] [] (nk_o K2 (mh ad A2 I2))) : nk_J G (mL nm) 20 Φ (bc + 14) (bs + 240) 419 [some (.ref s0), some (.ref o), some (.ref (ad 0)), some (.int (nI i))] [] (nk_o K (mh ad A I)) := by
  obtain ⟨fo, hfo⟩ := hW.o
  have hWn := hW.1
  refine nk_aload_n (i := 1) dL_law_419 rfl rfl ?_
  refine nk_cV (bc' := bc) (bs' := bs) kL_36 ((s_X7_shelf hW).frame hd) dL_law_420 (lw_o hfo) rfl rfl (by decide) (Nat.le_of_ble_eq_true rfl) ⟨by omega, by omega⟩ (fun rr H2 hr => ?_)
  obtain ⟨K2, ⟨rfl, hall⟩, hd2, rfl⟩ := hr
  obtain ⟨fm, hfm⟩ := lw_m hd2
  refine nk_aload_n (i := 2) dL_law_423 rfl rfl ?_
  refine nk_cV (bc' := bc) (bs' := bs) kL_40 (((s_shelf hi hWn.2.2.2.1 hWn.2.2.2.2.1).frame hd2.symm).to (nk_o_comm hd2)) dL_law_424 hfm rfl rfl (by decide) (Nat.le_of_ble_eq_true rfl) ⟨by omega, by omega⟩ (fun rr H2 hr => ?_)
  obtain ⟨H3, ⟨x, y, z, f, rfl, rfl, hf⟩, hd3, rfl⟩ := hr
  obtain ⟨g2, m2, b2, u2, l2, t2, hW2⟩ := hall x y z f hf
  refine nk_icmpeq (tgt := 1747) dL_law_427 (by decide) (fun _ => ?_) (fun h427 => by first | exact absurd (rfl) h427 | exact absurd h427 (rfl))
  refine nk_J.to ?_ rfl rfl (nk_o_comm hd3)
  exact kk _ _ _ _ _ _ _ _ _ hd3.symm hW2

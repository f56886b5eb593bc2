/-! the start: what holds at the entry -/
theorem lw_arr {s : State} {args : Array Value} {ty : FieldType} (h : (Cond.arrayClass ty).before args s = true) : ∃ c, ArrOfT s c ty ∧ s.vm.findClass ("[" ++ ty.toString) = some c := by
  obtain ⟨c, k, comp, h1, h2, h3⟩ := Cond.arrayClass_spec h
  exact ⟨c, fun n z => ⟨fun k h => (by cases h), k, h2, comp, h3⟩, h1⟩
theorem lw_obj {s : State} {args : Array Value} {C : String} (h : (Cond.arrayOver (.object C)).before args s = true) : ∃ c, ArrOfT s c (.object C) ∧ va_RA s c (.object C) := by
  obtain ⟨comp, c, k, h1, h2, h3, h4, h5⟩ := Cond.arrayOver_spec h
  exact ⟨c, fun n z => ⟨fun k h => (by cases h), k, h3, comp, h4⟩, k, comp, h3, h4, h1, h5⟩
theorem lw_arr2 {s : State} {args : Array Value} {ty : FieldType} (h : (Cond.arrayOver (.array ty)).before args s = true) : ∃ c, ArrOfT s c (.array ty) ∧ s.vm.findClass ("[" ++ (FieldType.array ty).toString) = some c := by
  obtain ⟨comp, c, k, h1, h4, h2, h3⟩ := mn_over h
  exact ⟨c, fun n z => ⟨fun k h => (by cases h), k, h2, comp, h3⟩, h4⟩
theorem lw_ne {s : State} {args : Array Value} {t1 t2 : Term} {a b : Nat} (h : (Cond.not (Cond.eq t1 t2)).before args s = true) (h1 : t1.eval args s none [] s = some (.ref a)) (h2 : t2.eval args s none [] s = some (.ref b)) : a ≠ b := fun e => by
  subst e
  simp [Cond.before, Cond.holds, Cond.value, h1, h2] at h
theorem lw_T0 {t t' n n' : Nat} {f f' : Nat → Value} {A A' : Nat → Prop} {s : State} {H : Heap} (h : va_T .int t n f A s H) (h' : va_T .int t' n' f' A' s H) (hn : 0 < n) (hn' : 0 < n') (hf : f 0 ≠ f' 0) : t ≠ t' := fun e => by
  subst e
  obtain ⟨c, h1, _, _, _, _, h2, _⟩ := h
  obtain ⟨c', k1, _, _, _, _, k2, _⟩ := h'
  cases h1.symm.trans k1
  have := (h2 0 hn).symm.trans (k2 0 hn')
  exact hf (Option.some.inj this)
theorem lw_X {s : State} {b L : Nat} {xs : Nat → Int32} (h : va_X b L xs s s.heap) (hb : b < s.heap.size) : va_T .int b L (fun j => .int (xs j)) (fun q => s.heap.size ≤ q) s s.heap := by
  obtain ⟨cell, h1, h2, h3, h4, h5⟩ := h
  exact ⟨cell, h1, h2, h3, Nat.le_of_eq h4.symm, by rw [h4], h5, fun z => absurd hb (Nat.not_lt.mpr z)⟩
theorem lw_G {s : State} {b L : Nat} {xs : Nat → Int32} (hts : ∀ w ∈ lw_tbl, w.before #[Value.ref b] s = true) (hX : va_X b L xs s s.heap) (hbl : b < s.heap.size) (hgv : (Jvm.Cond.and given_1 narrow_1).before #[Value.ref b] s = true) : ∃ G : nk_EG, nk_K G s ∧ nk_Z G (fun q => s.heap.size ≤ q) s s.heap ∧ nk_N s ∧ nk_GS G ∧ G.2.2.1 b = some (L, xs) := by
  have hw : ∀ (k : Nat) (w : Cond), lw_tbl[k]? = some w → w.before #[Value.ref b] s = true := fun k w h => hts w (List.mem_of_getElem? h)
  have htw : ∀ w ∈ nk_tw, w.before #[Value.ref b] s = true := fun w h => hts w (List.mem_filter.mp h).1
  have hs := flat_of_before _ hgv
  have hA : ∀ a : Nat, a < s.heap.size → ¬ s.heap.size ≤ a := fun a h => Nat.not_le.mpr h
  obtain ⟨d0, i0, k0⟩ := u_known htw ftX0 (hw 124 (.instantiable RX0 4) (by decide +kernel))
  obtain ⟨d1, i1, k1⟩ := u_known htw ftX1 (hw 148 (.instantiable RX1 2) (by decide +kernel))
  obtain ⟨d2, i2, k2⟩ := u_known htw ftX2 (hw 316 (.instantiable RX2 6) (by decide +kernel))
  obtain ⟨d3, i3, k3⟩ := u_known htw ftX4 (hw 201 (.instantiable RX4 2) (by decide +kernel))
  obtain ⟨d4, i4, k4⟩ := u_known htw ftX5 (hw 284 (.instantiable RX5 4) (by decide +kernel))
  obtain ⟨d5, i5, k5⟩ := u_known htw ftX6 (hw 90 (.instantiable RX6 7) (by decide +kernel))
  obtain ⟨d6, i6, k6⟩ := u_known htw ftX7 (hw 80 (.instantiable RX7 8) (by decide +kernel))
  obtain ⟨d7, i7, k7⟩ := u_known htw ftX8 (hw 851 (.instantiable RX8 15) (by decide +kernel))
  obtain ⟨cI, gI1, gI2⟩ := lw_arr (hw 120 (.arrayClass .int) (by decide +kernel))
  obtain ⟨cZ, gZ1, gZ2⟩ := lw_arr (hw 902 (.arrayClass .boolean) (by decide +kernel))
  obtain ⟨cK, gK1, gK2⟩ := lw_obj (hw 130 (.arrayOver (.object RX2)) (by decide +kernel))
  obtain ⟨cR, gR1, gR2⟩ := lw_obj (hw 88 (.arrayOver (.object RX4)) (by decide +kernel))
  obtain ⟨cS, gS1, gS2⟩ := lw_obj (hw 122 (.arrayOver (.object RX5)) (by decide +kernel))
  obtain ⟨cA, gA1, gA2⟩ := lw_arr2 (hw 132 (.arrayOver (.array .int)) (by decide +kernel))
  have hel0 : ∀ j : Nat, j < 6 → (Term.elem (.static "NextKeys" "PARENT" "[I") (.int (Int32.ofNat j))).eval #[Value.ref b] s none [] s = some ((fun j => Value.int (sZf [0, 0, 1, 1, 0, 4] j)) j) := fun j hj => by
    have hc : j = 0 ∨ j = 1 ∨ j = 2 ∨ j = 3 ∨ j = 4 ∨ j = 5 := by omega
    rcases hc with rfl | rfl | rfl | rfl | rfl | rfl
    · exact va_eqt (z := 0) (hs (Cond.eq (.elem (.static "NextKeys" "PARENT" "[I") (.int 0)) (.int 0)) (by decide +kernel))
    · exact va_eqt (z := 0) (hs (Cond.eq (.elem (.static "NextKeys" "PARENT" "[I") (.int 1)) (.int 0)) (by decide +kernel))
    · exact va_eqt (z := 1) (hs (Cond.eq (.elem (.static "NextKeys" "PARENT" "[I") (.int 2)) (.int 1)) (by decide +kernel))
    · exact va_eqt (z := 1) (hs (Cond.eq (.elem (.static "NextKeys" "PARENT" "[I") (.int 3)) (.int 1)) (by decide +kernel))
    · exact va_eqt (z := 0) (hs (Cond.eq (.elem (.static "NextKeys" "PARENT" "[I") (.int 4)) (.int 0)) (by decide +kernel))
    · exact va_eqt (z := 4) (hs (Cond.eq (.elem (.static "NextKeys" "PARENT" "[I") (.int 5)) (.int 4)) (by decide +kernel))
  obtain ⟨t0, tv0, tt0⟩ := va_Tof (ty := .int) (N := 6) (A := fun q => s.heap.size ≤ q) (by decide) (hs (Cond.arrayOf (.static "NextKeys" "PARENT" "[I") .int) (by decide +kernel)) (va_eqt (z := 6) (hs (Cond.eq (.length (.static "NextKeys" "PARENT" "[I")) (.int 6)) (by decide +kernel))) hel0 hA
  have zz0 : va_Z RX7 "PARENT" "[I" (.ref t0) (fun q => s.heap.size ≤ q) s s.heap := va_Zof (hw 800 (.laysStatic RX7 "PARENT" "[I") (by decide +kernel)) (hw 67 (.initialized RX7) (by decide +kernel)) tv0 hA
  have nb0 : b ≠ t0 := lw_ne (hs (Cond.not (Cond.eq (.arg 0) (.static "NextKeys" "PARENT" "[I"))) (by decide +kernel)) rfl tv0
  have hel1 : ∀ j : Nat, j < 6 → (Term.elem (.static "NextKeys$Asks" "SIZE_BODY" "[I") (.int (Int32.ofNat j))).eval #[Value.ref b] s none [] s = some ((fun j => Value.int (sZf [10, 11, 12, 11, 13, 14] j)) j) := fun j hj => by
    have hc : j = 0 ∨ j = 1 ∨ j = 2 ∨ j = 3 ∨ j = 4 ∨ j = 5 := by omega
    rcases hc with rfl | rfl | rfl | rfl | rfl | rfl
    · exact va_eqt (z := 10) (hs (Cond.eq (.elem (.static "NextKeys$Asks" "SIZE_BODY" "[I") (.int 0)) (.int 10)) (by decide +kernel))
    · exact va_eqt (z := 11) (hs (Cond.eq (.elem (.static "NextKeys$Asks" "SIZE_BODY" "[I") (.int 1)) (.int 11)) (by decide +kernel))
    · exact va_eqt (z := 12) (hs (Cond.eq (.elem (.static "NextKeys$Asks" "SIZE_BODY" "[I") (.int 2)) (.int 12)) (by decide +kernel))
    · exact va_eqt (z := 11) (hs (Cond.eq (.elem (.static "NextKeys$Asks" "SIZE_BODY" "[I") (.int 3)) (.int 11)) (by decide +kernel))
    · exact va_eqt (z := 13) (hs (Cond.eq (.elem (.static "NextKeys$Asks" "SIZE_BODY" "[I") (.int 4)) (.int 13)) (by decide +kernel))
    · exact va_eqt (z := 14) (hs (Cond.eq (.elem (.static "NextKeys$Asks" "SIZE_BODY" "[I") (.int 5)) (.int 14)) (by decide +kernel))
  obtain ⟨t1, tv1, tt1⟩ := va_Tof (ty := .int) (N := 6) (A := fun q => s.heap.size ≤ q) (by decide) (hs (Cond.arrayOf (.static "NextKeys$Asks" "SIZE_BODY" "[I") .int) (by decide +kernel)) (va_eqt (z := 6) (hs (Cond.eq (.length (.static "NextKeys$Asks" "SIZE_BODY" "[I")) (.int 6)) (by decide +kernel))) hel1 hA
  have zz1 : va_Z RX1 "SIZE_BODY" "[I" (.ref t1) (fun q => s.heap.size ≤ q) s s.heap := va_Zof (hw 815 (.laysStatic RX1 "SIZE_BODY" "[I") (by decide +kernel)) (hw 70 (.initialized RX1) (by decide +kernel)) tv1 hA
  have nb1 : b ≠ t1 := lw_ne (hs (Cond.not (Cond.eq (.arg 0) (.static "NextKeys$Asks" "SIZE_BODY" "[I"))) (by decide +kernel)) rfl tv1
  have hel2 : ∀ j : Nat, j < 6 → (Term.elem (.static "NextKeys$Asks" "MARK_BODY" "[I") (.int (Int32.ofNat j))).eval #[Value.ref b] s none [] s = some ((fun j => Value.int (sZf [20, 21, 24, 22, 23, 23] j)) j) := fun j hj => by
    have hc : j = 0 ∨ j = 1 ∨ j = 2 ∨ j = 3 ∨ j = 4 ∨ j = 5 := by omega
    rcases hc with rfl | rfl | rfl | rfl | rfl | rfl
    · exact va_eqt (z := 20) (hs (Cond.eq (.elem (.static "NextKeys$Asks" "MARK_BODY" "[I") (.int 0)) (.int 20)) (by decide +kernel))
    · exact va_eqt (z := 21) (hs (Cond.eq (.elem (.static "NextKeys$Asks" "MARK_BODY" "[I") (.int 1)) (.int 21)) (by decide +kernel))
    · exact va_eqt (z := 24) (hs (Cond.eq (.elem (.static "NextKeys$Asks" "MARK_BODY" "[I") (.int 2)) (.int 24)) (by decide +kernel))
    · exact va_eqt (z := 22) (hs (Cond.eq (.elem (.static "NextKeys$Asks" "MARK_BODY" "[I") (.int 3)) (.int 22)) (by decide +kernel))
    · exact va_eqt (z := 23) (hs (Cond.eq (.elem (.static "NextKeys$Asks" "MARK_BODY" "[I") (.int 4)) (.int 23)) (by decide +kernel))
    · exact va_eqt (z := 23) (hs (Cond.eq (.elem (.static "NextKeys$Asks" "MARK_BODY" "[I") (.int 5)) (.int 23)) (by decide +kernel))
  obtain ⟨t2, tv2, tt2⟩ := va_Tof (ty := .int) (N := 6) (A := fun q => s.heap.size ≤ q) (by decide) (hs (Cond.arrayOf (.static "NextKeys$Asks" "MARK_BODY" "[I") .int) (by decide +kernel)) (va_eqt (z := 6) (hs (Cond.eq (.length (.static "NextKeys$Asks" "MARK_BODY" "[I")) (.int 6)) (by decide +kernel))) hel2 hA
  have zz2 : va_Z RX1 "MARK_BODY" "[I" (.ref t2) (fun q => s.heap.size ≤ q) s s.heap := va_Zof (hw 817 (.laysStatic RX1 "MARK_BODY" "[I") (by decide +kernel)) (hw 70 (.initialized RX1) (by decide +kernel)) tv2 hA
  have nb2 : b ≠ t2 := lw_ne (hs (Cond.not (Cond.eq (.arg 0) (.static "NextKeys$Asks" "MARK_BODY" "[I"))) (by decide +kernel)) rfl tv2
  have n01 : t0 ≠ t1 := lw_T0 tt0 tt1 (by omega) (by omega) (by intro z; have z2 : (0 : Int32) = 10 := Value.int.inj z; revert z2; decide)
  have n02 : t0 ≠ t2 := lw_T0 tt0 tt2 (by omega) (by omega) (by intro z; have z2 : (0 : Int32) = 20 := Value.int.inj z; revert z2; decide)
  have n12 : t1 ≠ t2 := lw_T0 tt1 tt2 (by omega) (by omega) (by intro z; have z2 : (10 : Int32) = 20 := Value.int.inj z; revert z2; decide)
  let dC : Nat → ClassId := fun c => match c with
    | 0 => d0 | 1 => d1 | 2 => d2 | 3 => d3 | 4 => d4 | 5 => d5 | 6 => d6 | _ => d7
  let dI : Nat → Nat → Nat := fun c => match c with
    | 0 => i0 | 1 => i1 | 2 => i2 | 3 => i3 | 4 => i4 | 5 => i5 | 6 => i6 | _ => i7
  let ar : FieldType → ClassId := fun ty => match ty with
    | .int => cI
    | .boolean => cZ
    | .array _ => cA
    | .object n => if n = RX2 then cK else if n = RX4 then cR else cS
    | _ => cI
  let ro : Nat → Option (Nat × (Nat → Int32)) := fun x => if x = b then some (L, xs) else if x = t0 then some (6, sZf [0, 0, 1, 1, 0, 4]) else if x = t1 then some (6, sZf [10, 11, 12, 11, 13, 14]) else if x = t2 then some (6, sZf [20, 21, 24, 22, 23, 23]) else none
  let sz : Nat → Nat := fun k => match k with
    | 0 => t0 | 1 => t1 | _ => t2
  have aX2 : ar (.object RX2) = cK := if_pos rfl
  have aX4 : ar (.object RX4) = cR := (if_neg (by decide)).trans (if_pos rfl)
  have aX5 : ar (.object RX5) = cS := (if_neg (by decide)).trans (if_neg (by decide))
  refine ⟨((dC, dI), ar, ro, sz), ⟨fun c q hq => ?_, fun k q hk => ?_⟩, ⟨fun x n f hx => ?_, fun k q hk => ?_⟩, ⟨fun q hq => ?_, ?_, ?_, ?_, ?_, ?_⟩, ⟨?_, ?_, ?_⟩, if_pos rfl⟩
  · match c, hq with
    | 0, hq => cases hq; exact k0
    | 1, hq => cases hq; exact k1
    | 2, hq => cases hq; exact k2
    | 3, hq => cases hq; exact k3
    | 4, hq => cases hq; exact k4
    | 5, hq => cases hq; exact k5
    | 6, hq => cases hq; exact k6
    | 7, hq => cases hq; exact k7
    | n + 8, hq => exact absurd hq (by simp [vwCl])
  · match k, hk with
    | 0, hk => cases hk; exact ⟨gI1, gI2⟩
    | 1, hk => cases hk; exact ⟨gZ1, gZ2⟩
    | 2, hk => cases hk; show ArrOfT s (ar (.object RX2)) (.object RX2) ∧ va_RA s (ar (.object RX2)) (.object RX2); rw [aX2]; exact ⟨gK1, gK2⟩
    | 3, hk => cases hk; show ArrOfT s (ar (.object RX4)) (.object RX4) ∧ va_RA s (ar (.object RX4)) (.object RX4); rw [aX4]; exact ⟨gR1, gR2⟩
    | 4, hk => cases hk; show ArrOfT s (ar (.object RX5)) (.object RX5) ∧ va_RA s (ar (.object RX5)) (.object RX5); rw [aX5]; exact ⟨gS1, gS2⟩
    | 5, hk => cases hk; exact ⟨gA1, gA2⟩
    | n + 6, hk => exact absurd hk (by simp [nk_Ts, nk_Ty])
  · have hx : (if x = b then some (L, xs) else if x = t0 then some (6, sZf [0, 0, 1, 1, 0, 4]) else if x = t1 then some (6, sZf [10, 11, 12, 11, 13, 14]) else if x = t2 then some (6, sZf [20, 21, 24, 22, 23, 23]) else none) = some (n, f) := hx
    by_cases e0 : x = b
    · rw [if_pos e0] at hx; cases hx; subst e0; exact lw_X hX hbl
    · rw [if_neg e0] at hx
      by_cases e1 : x = t0
      · rw [if_pos e1] at hx; cases hx; subst e1; exact tt0
      · rw [if_neg e1] at hx
        by_cases e2 : x = t1
        · rw [if_pos e2] at hx; cases hx; subst e2; exact tt1
        · rw [if_neg e2] at hx
          by_cases e3 : x = t2
          · rw [if_pos e3] at hx; cases hx; subst e3; exact tt2
          · rw [if_neg e3] at hx; cases hx
  · match k, hk with
    | 0, hk => cases hk; exact zz0
    | 1, hk => cases hk; exact zz1
    | 2, hk => cases hk; exact zz2
    | n + 3, hk => exact absurd hk (by simp [nk_sZ])
  · simp only [nk_Nm, List.mem_cons, List.not_mem_nil, or_false] at hq
    rcases hq with rfl | rfl | rfl | rfl | rfl | rfl | rfl | rfl | rfl | rfl
    · exact va_tabs (A := #[Value.ref b]) rfl rfl (hw 91 (.methodLinkNest RX7 17 yX6_init RX7) (by decide +kernel))
    · exact va_tabs (A := #[Value.ref b]) rfl rfl (hw 125 (.methodLinkNest RX7 30 yX0_init RX7) (by decide +kernel))
    · exact va_tabs (A := #[Value.ref b]) rfl rfl (hw 149 (.methodLinkNest RX7 37 yX1_init RX7) (by decide +kernel))
    · exact va_tabs (A := #[Value.ref b]) rfl rfl (hw 270 (.methodLinkNest RX6 77 yX7_within RX7) (by decide +kernel))
    · exact va_tabs (A := #[Value.ref b]) rfl rfl (hw 401 (.methodLinkNest RX5 30 yX7_within RX7) (by decide +kernel))
    · exact va_tabs (A := #[Value.ref b]) rfl rfl (hw 457 (.methodLinkNest RX2 52 yX7_within RX7) (by decide +kernel))
    · exact va_tabs (A := #[Value.ref b]) rfl rfl (hw 582 (.methodLinkNest RX2 137 yX3_stepsAbove RX7) (by decide +kernel))
    · exact va_tabs (A := #[Value.ref b]) rfl rfl (hw 607 (.methodLinkNest RX2 131 yX3_nodesOf RX7) (by decide +kernel))
    · exact va_tabs (A := #[Value.ref b]) rfl rfl (hw 615 (.methodLinkNest RX2 134 yX3_depthOf RX7) (by decide +kernel))
    · exact va_tabs (A := #[Value.ref b]) rfl rfl (hw 813 (.methodLinkNest RX1 23 yX7_within RX7) (by decide +kernel))
  · exact va_tabs (A := #[Value.ref b]) rfl rfl (hw 486 (.castable "[I" "java/lang/Cloneable") (by decide +kernel))
  · exact hw 130 (.arrayOver (.object RX2)) (by decide +kernel)
  · exact hw 88 (.arrayOver (.object RX4)) (by decide +kernel)
  · exact hw 122 (.arrayOver (.object RX5)) (by decide +kernel)
  · exact hw 132 (.arrayOver (.array .int)) (by decide +kernel)
  · exact (if_neg nb0.symm).trans (if_pos rfl)
  · exact (if_neg nb1.symm).trans ((if_neg n01.symm).trans (if_pos rfl))
  · exact (if_neg nb2.symm).trans ((if_neg n02.symm).trans ((if_neg n12.symm).trans (if_pos rfl)))
theorem whole_start {p : Program} {e : Env} {s : State} {m : MethodId} {below : List Frame} {meth : Method} {c : Code} (l : Launch) (hflags : l.flags = flags0) {b L : Nat} {xs : Nat → Int32} (hL : L ≤ 3072) (C0 : lw_At p s m meth c b L xs) : W p l e room_1 s m #[Value.ref b] below meth c s.heap [] 0 0 (lw_Z below #[Value.ref b] s) (entryFrame m ([Value.ref b] : List Value).toArray 4) := by
  obtain ⟨hx, hb, hr, hml, hown, hts, hX, hbl, hlocks, hgv⟩ := C0
  obtain ⟨G, hK, hZ, hN, hGS, hsc⟩ := lw_G hts hX hbl hgv
  have hJ := law_J (nm := meth.name) hGS hsc hL (bc := 600000) (bs := 7302249) (by omega) (by omega)
  rw [lg_entry_eq]
  refine hJ p l e room_1 s m #[Value.ref b] below meth c 600000 7302249 (fun q => s.heap.size ≤ q) (lw_Z below #[Value.ref b] s) ⟨hx, hb, hml, hown, rfl, fun w hw => hts w (List.mem_filter.mp hw).1, ⟨Nat.le_of_ble_eq_true rfl, Nat.le_of_ble_eq_true rfl, Nat.le_refl _, Nat.le_refl _⟩, hK, hZ, hN, fun q hq => hq, ?_⟩ s.heap [] 0 0 _ (nk_ent_L (av := [.ref b]) (Nat.le_of_ble_eq_true rfl)) (fun a e h => by cases h) (fun a h => by cases h) va_S.rf (by omega) (by omega)
  intro pc ls Hc locs ins r H' hd hro hf hP' hA' hS'
  have hf : r = some (.int 1) := hf
  subst hf
  rcases hro with ⟨h1, h2, h3⟩ | ⟨ty, v, h1, h2, h3, rfl⟩ | ⟨v, h1, h2, h3⟩ | ⟨rt, v, h1, h2, h3, h4, h5⟩
  · cases h2
  · exact fun T hT X => lw_ret hx hb hr hlocks hd T hT (Stand.dropFresh (locs := []) (J := locs) X (fun x hx => hS'.2.2 x hx))
  · cases h2
  · cases h4
    rcases h3 with z | ⟨a, z⟩ <;> cases z

/-! the class: an act undone -/
section UND
variable {K : nk_AH} {g : Nat → Nat} {o : Nat} {A A' : Nat → Nat → Int32} {I I' : Nat → Int32} {m b u l t a1 a2 a3 a4 a5 q sa s b1 b2 c : Nat} {qs ws bf : Nat → Nat} {z : Nat → Option Nat} {f fj : Nat → Int32}
theorem cW.und (hn : cWn A I u l t) (hx : cWx K g o A I l t a1 a2 a3 a4 a5 (some q)) (s2 : shV (A 0) 0 m b) (s3 : cSw K g 0 q sa m b qs ws (A 0) 0) (s5 : ∀ j, j < u → ∀ s, s < m → gz (shF (A 0) (134 + 134 * j) s) b)
    (c1 : rT K g 5 a4 (acc b1 b2 c u)) (c2 : rT K g 6 b1 (chc z)) (c3 : rT K g 7 b2 (bfc bf)) (hc : c < 24) (c6 : ∀ i, i < 24 → ∃ f, rT K g (30 + i) (bf i) (inc 32 f)) (c7 : ∀ j, j < u → ∃ s f, s < m ∧ z ((c + 24 - u + j) % 24) = some (qs s) ∧ K (bf ((c + 24 - u + j) % 24)) = some (inc 32 f) ∧ pst (A 0) u b j s f)
    (hu1 : 1 ≤ u) (hs : s < m) (hp : pst (A 0) u b (u - 1) s fj)
    (e0 : A' 0 = va_cpy (A 0) (A 0) (134 + 134 * (u - 1)) 0 134) (e1 : A' 1 = A 1) (e2 : A' 2 = A 2) (e3 : A' 3 = A 3) (e4 : A' 4 = A 4) (e5 : A' 5 = A 5) (e6 : A' 6 = A 6) (i0 : I' 0 = nI (u - 1)) (i1 : I' 1 = I 1) (i2 : I' 2 = I 2) (i3 : I' 3 = I 3) (i4 : I' 4 = I 4) : cW (nk_u (nk_u K a4 (acc b1 b2 ((c + 23) % 24) (u - 1))) (ws s) (inc (nk_wm b) (va_cpy fj f 0 0 (nk_wm b)))) g o A' I' m b (u - 1) l t := by
  obtain ⟨h1, h2, h3, h4, h5⟩ := hx
  have hu := hn.2.2.1
  have hm4 := s2.2.2.2.1
  have hwm := wm_f b s2.2.2.2.2.2.1 s2.2.2.2.2.1
  have k1 : rk (fun y => y ≠ 5) K g (nk_u K a4 (acc b1 b2 ((c + 23) % 24) (u - 1))) g := rk.u c1.2
  have k2 : rk (fun y => y ≠ 66 + s) (nk_u K a4 (acc b1 b2 ((c + 23) % 24) (u - 1))) g (nk_u (nk_u K a4 (acc b1 b2 ((c + 23) % 24) (u - 1))) (ws s) (inc (nk_wm b) (va_cpy fj f 0 0 (nk_wm b)))) g := rk.u ((s3.2.2.2 s hs).2.trans (by omega))
  have k12 := k1.tr k2
  have hinj : ∀ x y, x < m → y < m → ws x = ws y → x = y := fun x y hx hy e => by
    have t1 := (s3.2.2.2 x hx).2
    have t2 := (s3.2.2.2 y hy).2
    rw [e] at t1; omega
  generalize hr' : va_cpy (A 0) (A 0) (134 + 134 * (u - 1)) 0 134 = r' at e0
  have hlo : ∀ i, i < 134 → r' i = A 0 (134 + 134 * (u - 1) + i) := fun i hi => by rw [← hr']; unfold va_cpy; rw [if_pos (by omega), Nat.sub_zero]
  have hhi : ∀ i, 134 ≤ i → r' i = A 0 i := fun i hi => by rw [← hr', va_cpy_out (by omega)]
  have hnx : nxp u (u - 1) = 0 := by unfold nxp; rw [if_pos (by omega)]
  have hcur : ∀ i, i < 134 → ¬ (6 + 32 * s ≤ i ∧ i < 6 + 32 * s + nk_wm b) → r' i = A 0 i := fun i hi hni => by rw [hlo i hi, hp i hi, if_neg hni, hnx, Nat.zero_add]
  have hwd : ∀ v, v < nk_wm b → va_cpy fj f 0 0 (nk_wm b) v = shF r' 0 s v := fun v hv => by
    show _ = r' (0 + 6 + 32 * s + v)
    rw [hlo _ (by omega), hp _ (by omega), if_pos (by omega)]
    unfold va_cpy
    rw [if_pos (by omega)]
    exact congrArg fj (by omega)
  have hS' : shV r' 0 m b := by
    obtain ⟨v1, v2, v3, v4, v5, v6, v7⟩ := s2
    refine ⟨(hcur 0 (by omega) (by omega)).trans v1, (hcur 1 (by omega) (by omega)).trans v2, v3, v4, v5, v6, fun s' hs' => ⟨?_, ?_⟩⟩
    · rw [hcur _ (by omega) (by omega)]; exact (v7 s' hs').1
    · refine gz_cg (s5 (u - 1) (by omega) s' hs') (fun v hv => ?_)
      show A 0 (134 + 134 * (u - 1) + 6 + 32 * s' + v) = r' (0 + 6 + 32 * s' + v)
      rw [hlo _ (by omega)]
      exact congrArg (A 0) (by omega)
  have w1 := s3.mv hm4 k1 (fun t z1 z2 => by omega)
  refine ⟨⟨fun r hr => by rw [e3]; exact hn.1 r hr, i0, by omega, by rw [i1]; exact hn.2.2.2.1, hn.2.2.2.2.1, by rw [i4]; exact hn.2.2.2.2.2.1, hn.2.2.2.2.2.2⟩, a1, a2, a3, a4, a5, some q, ⟨?_, ?_, ?_, ?_, ?_⟩, Or.inr ⟨q, sa, qs, ws, rfl, by rw [e0]; exact hS', ?_, ?_, ?_⟩⟩
  · rw [i2, i3]; exact h1.mv k12 ⟨by omega, by omega⟩
  · rw [e2, e3, e4]; exact h2.mv k12 (fun t z => ⟨by omega, by omega⟩)
  · rw [e5]; exact h3.mv k12 (fun t z => ⟨by omega, by omega⟩)
  · rw [e0, e1]
    exact (h4.mv k12 (fun t z => ⟨by omega, by omega⟩)).cg (fun i hi1 hi2 => (hhi i (by omega)).symm)
  · rw [e6]; exact h5.mv k12 (fun t z => ⟨by omega, by omega⟩)
  · rw [e0]
    exact ⟨(w1.1.put hinj hs (F' := shF r' 0) hwd (fun s' hs' hne v hv => (hcur _ (by omega) (by omega)).symm)).cg (fun j hj => (hcur _ (by omega) (by omega)).symm) (fun _ _ _ _ => rfl), w1.2⟩
  · rw [e0]
    refine ⟨b1, b2, z, bf, (c + 23) % 24, (c1.u).mv k2 (by omega), c2.mv k12 ⟨by omega, by omega⟩, c3.mv k12 ⟨by omega, by omega⟩, Nat.mod_lt _ (by omega), by omega, fun i hi => ?_, fun j hj => ?_⟩
    · obtain ⟨fi, hfi⟩ := c6 i hi
      exact ⟨fi, hfi.mv k12 ⟨by omega, by omega⟩⟩
    · have hix : ((c + 23) % 24 + 24 - (u - 1) + j) % 24 = (c + 24 - u + j) % 24 := by omega
      obtain ⟨sj, gj, p1, p2, p3, p4⟩ := c7 j (by omega)
      have hlt : (c + 24 - u + j) % 24 < 24 := Nat.mod_lt _ (by omega)
      obtain ⟨fi, hfi⟩ := c6 _ hlt
      rw [hix]
      refine ⟨sj, gj, p1, p2, (k12 _ _ p3 (by rw [hfi.2]; exact ⟨by omega, by omega⟩)).1, fun i hi => ?_⟩
      rw [hhi _ (by omega), p4 i hi]
      by_cases y : 6 + 32 * sj ≤ i ∧ i < 6 + 32 * sj + nk_wm b
      · rw [if_pos y, if_pos y]
      · rw [if_neg y, if_neg y]
        have hn2 : nxp u j = 134 + 134 * (j + 1) := by unfold nxp; rw [if_neg (by omega)]
        rw [hn2]
        by_cases x : j + 1 = u - 1
        · have hn3 : nxp (u - 1) j = 0 := by unfold nxp; rw [if_pos x]
          rw [hn3, Nat.zero_add, hlo i hi, x]
        · have hn3 : nxp (u - 1) j = 134 + 134 * (j + 1) := by unfold nxp; rw [if_neg x]
          rw [hn3, hhi _ (by omega)]
  · rw [e0]
    intro j hj s' hs'
    refine gz_cg (s5 j (by omega) s' hs') (fun v hv => (hhi _ (by omega)).symm)
end UND
set_option maxRecDepth 20000 in
theorem s_X7_undo {G : nk_EG} {K : nk_AH} {g : Nat → Nat} {o m b u l t : Nat} {A : Nat → Nat → Int32} {I : Nat → Int32} (hW : cW K g o A I m b u l t) : nk_S G mX7_undo 15 0 0 [.ref o] K (pW o (if u = 0 then -1000002 else nI (u - 1)) (if u = 0 then A else va_up A 0 (va_cpy (A 0) (A 0) (134 + 134 * (u - 1)) 0 134)) (if u = 0 then I else va_up I 0 (nI (u - 1)))) := by
  refine nk_S.of (by decide +kernel) (Nat.le_of_ble_eq_true rfl) rfl ?_
  obtain ⟨hn, a1, a2, a3, a4, a5, sh, hx, hs⟩ := id hW
  have hu := hn.2.2.1
  by_cases h1 : u = 0
  · rw [if_pos h1, if_pos h1, if_pos h1]
    have hac : ∃ b1 b2 c, K a4 = some (acc b1 b2 c u) := by
      rcases hs with ⟨_, _, _, rfl, _, _, c7⟩ | ⟨q, sa, qs, ws, rfl, s2, s3, s4, s5⟩
      · obtain ⟨b1, b2, z, bf, c, c1, _⟩ := c7
        exact ⟨b1, b2, c, c1.1⟩
      · obtain ⟨b1, b2, z, bf, c, c1, _⟩ := s4
        exact ⟨b1, b2, c, c1.1⟩
    obtain ⟨b1, b2, c, hac⟩ := hac
    have h0 : nI u = 0 := by rw [h1]; rfl
    refine nk_aload_n (i := 0) dX7_undo_0 rfl rfl ?_
    refine nk_getf fX7_31 dX7_undo_1 hx.1.1 rfl ?_
    refine nk_getf fX7_117 dX7_undo_4 hac rfl ?_
    refine nk_ifne (tgt := 13) dX7_undo_7 (by decide) (fun h7 => by first | exact absurd h7 ((fun z => z h0)) | exact absurd ((fun z => z h0)) h7) (fun _ => ?_)
    refine nk_ldc qX7_120 dX7_undo_10 ?_
    refine nk_ireturn dX7_undo_12 rfl ?_
    exact ⟨rfl, g, m, b, u, l, t, hW⟩
  · rw [if_neg h1, if_neg h1, if_neg h1]
    rcases hs with ⟨_, _, _, hz, _⟩ | ⟨q, sa, qs, ws, rfl, s2, s3, s4, s5⟩
    · exact absurd hz h1
    · obtain ⟨b1, b2, z, bf, c, c1, c2, c3, hc, -, c6, c7⟩ := s4
      have h0 : ¬ nI u = 0 := fun q => h1 (nk_eqI (b := 0) q (by omega) (by omega))
      have hb2 := s2.2.2.2.2.1
      have hb10 := s2.2.2.2.2.2.1
      obtain ⟨sj, fj, p1, p2, p3, p4⟩ := c7 (u - 1) (by omega)
      have hix : (c + 24 - u + (u - 1)) % 24 = (c + 23) % 24 := by omega
      rw [hix] at p2 p3
      obtain ⟨f, hk, hf⟩ := s3.1.2.2 sj p1
      have hA : cA0 K a4 b1 b2 z bf c u := ⟨c1.1, c2.1, c3.1⟩
      have htb := s_X0_takeBack (G := G) hA hc hu (by omega) hk hb2 hb10 p2 p3
      have hw4 : a4 ≠ ws sj := fun e => by have t1 := (s3.2.2.2 sj p1).2; rw [← e, c1.2] at t1; omega
      have ho4 : o ≠ a4 := fun e => by have t1 := hx.1.2; rw [e, c1.2] at t1; omega
      have how : o ≠ ws sj := fun e => by have t1 := (s3.2.2.2 sj p1).2; rw [← e, hx.1.2] at t1; omega
      refine nk_aload_n (i := 0) dX7_undo_0 rfl rfl ?_
      refine nk_getf fX7_31 dX7_undo_1 hx.1.1 rfl ?_
      refine nk_getf fX7_117 dX7_undo_4 c1.1 rfl ?_
      refine nk_ifne (tgt := 13) dX7_undo_7 (by decide) (fun _ => ?_) (fun h7 => by first | exact absurd (h0) h7 | exact absurd h7 (h0))
      refine nk_aload_n (i := 0) dX7_undo_13 rfl rfl ?_
      refine nk_getf fX7_31 dX7_undo_14 hx.1.1 rfl ?_
      refine nk_cVv kX7_121 (htb) dX7_undo_17 c1.1 rfl rfl (by decide) (Nat.le_of_ble_eq_true rfl) ?_
      refine nk_aload_n (i := 0) dX7_undo_20 rfl rfl ?_
      refine nk_getf fX7_31 dX7_undo_21 ((nk_u_ne how).trans ((nk_u_ne ho4).trans hx.1.1)) rfl ?_
      refine nk_getf fX7_117 dX7_undo_24 ((nk_u_ne hw4).trans (nk_u_self _ _ _)) rfl ?_
      refine nk_ireturn dX7_undo_27 rfl ?_
      exact ⟨rfl, g, m, b, u - 1, l, t, cW.und (A' := va_up A 0 (va_cpy (A 0) (A 0) (134 + 134 * (u - 1)) 0 134)) (I' := va_up I 0 (nI (u - 1))) hn hx s2 s3 s5 c1 c2 c3 hc c6 c7 (by omega) p1 p4 rfl rfl rfl rfl rfl rfl rfl rfl rfl rfl rfl rfl⟩

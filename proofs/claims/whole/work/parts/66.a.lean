/-! an act, and one taken back, of the two states -/
theorem a_kp_p {f : Nat → Int32} {u j i : Nat} (hu : u ≤ 24) (hj : j < u_kp u) (hi : i < 134) : a_kp f u (134 + 134 * j + i) = f (134 + 134 * (j + (if u = 24 then 1 else 0)) + i) := by
  unfold a_kp
  rw [va_cpy_out (by omega)]
  unfold a_sh
  unfold u_kp at hj
  by_cases z : u = 24
  · rw [if_pos z] at hj
    rw [if_pos z, if_pos z]
    unfold va_cpy
    rw [if_pos (by omega)]
    exact congrArg f (by omega)
  · rw [if_neg z, if_neg z]; rfl
theorem a_kp_n {f : Nat → Int32} {u i : Nat} (hi : i < 134) : a_kp f u (134 + 134 * u_kp u + i) = f i := by
  unfold a_kp va_cpy
  rw [if_pos (by omega), a_sh_lo (by omega)]
  exact congrArg f (by omega)
theorem a_kp_hi {f : Nat → Int32} {u i : Nat} (hu : u ≤ 24) (hi : 3350 ≤ i) : a_kp f u i = f i := by
  have := u_kp_le hu
  unfold a_kp
  rw [va_cpy_out (by omega)]
  unfold a_sh
  split
  · rw [va_cpy_out (by omega)]
  · rfl
theorem gz_cg {f f' : Nat → Int32} {b : Nat} (h : gz f b) (e : ∀ v, v < 32 → f v = f' v) : gz f' b := fun k k1 k2 => by
  have := h k k1 k2
  unfold gm at this ⊢
  rw [← e _ (by omega)]; exact this
theorem shV.cg {r r' : Nat → Int32} {base base' m b : Nat} (h : shV r base m b) (e : ∀ i, i < 134 → r (base + i) = r' (base' + i)) : shV r' base' m b := by
  obtain ⟨h1, h2, h3, h4, h5, h6, h7⟩ := h
  refine ⟨(e 0 (by omega)).symm.trans h1, (e 1 (by omega)).symm.trans h2, h3, h4, h5, h6, fun s hs => ⟨?_, gz_cg (h7 s hs).2 (fun v hv => ?_)⟩⟩
  · obtain ⟨kk, k1, k2, k3⟩ := (h7 s hs).1
    exact ⟨kk, k1, k2, by rw [Nat.add_assoc, ← e _ (by omega), ← Nat.add_assoc]; exact k3⟩
  · show r (base + 6 + 32 * s + v) = r' (base' + 6 + 32 * s + v)
    rw [show base + 6 + 32 * s + v = base + (6 + 32 * s + v) by omega, show base' + 6 + 32 * s + v = base' + (6 + 32 * s + v) by omega]
    exact e _ (by omega)
theorem cS.at2 {H : nk_AH} {q sa m b : Nat} {qs ws : Nat → Nat} {r r' : Nat → Int32} {base base' : Nat} (h : cS H q sa m b qs ws (shK r base) (shF r base)) (hv : shV r base m b) (e : ∀ i, i < 134 → r (base + i) = r' (base' + i)) : cS H q sa m b qs ws (shK r' base') (shF r' base') := by
  have hwm := wm_f b hv.2.2.2.2.2.1 hv.2.2.2.2.1
  have hm := hv.2.2.2.1
  refine h.cg (fun j hj => ?_) (fun j hj v hv => ?_)
  · show r (base + 2 + j) = r' (base' + 2 + j)
    rw [Nat.add_assoc, Nat.add_assoc]; exact e _ (by omega)
  · show r (base + 6 + 32 * j + v) = r' (base' + 6 + 32 * j + v)
    rw [show base + 6 + 32 * j + v = base + (6 + 32 * j + v) by omega, show base' + 6 + 32 * j + v = base' + (6 + 32 * j + v) by omega]
    exact e _ (by omega)
theorem cSw.cg {K : nk_AH} {g : Nat → Nat} {c q sa m b : Nat} {qs ws : Nat → Nat} {r r' : Nat → Int32} {base base' : Nat} (h : cSw K g c q sa m b qs ws r base) (hv : shV r base m b) (e : ∀ i, i < 134 → r (base + i) = r' (base' + i)) : cSw K g c q sa m b qs ws r' base' := ⟨h.1.at2 hv e, h.2⟩
theorem cIw.cg {K : nk_AH} {g : Nat → Nat} {a : Nat} {r r' kp : Nat → Int32} (h : cIw K g a r kp) (e : ∀ i, 3350 ≤ i → i < 3618 → r i = r' i) : cIw K g a r' kp := by
  obtain ⟨z, h1, h2⟩ := h
  refine ⟨z, h1, fun k hk => ?_⟩
  rcases h2 k hk with h | ⟨h0, q, sa, m, b, qs, ws, k1, k2, k3⟩
  · exact Or.inl h
  · exact Or.inr ⟨h0, q, sa, m, b, qs, ws, k1, k2.cg (fun i hi => e _ (by omega) (by omega)), k3.cg k2 (fun i hi => e _ (by omega) (by omega))⟩
section ACT
variable {K : nk_AH} {g : Nat → Nat} {o : Nat} {A A' : Nat → Nat → Int32} {I I' : Nat → Int32} {m b u l t a1 a2 a3 a4 a5 q sa s b1 b2 c : Nat} {qs ws bf : Nat → Nat} {z : Nat → Option Nat} {κ : Int32} {f g0 fn r' : Nat → Int32}
/-- a set of the shelf is changed, after its words were kept -/
theorem cW.act (hn : cWn A I u l t) (hx : cWx K g o A I l t a1 a2 a3 a4 a5 (some q)) (s2 : shV (A 0) 0 m b) (s3 : cSw K g 0 q sa m b qs ws (A 0) 0) (s5 : ∀ j, j < u → ∀ s, s < m → gz (shF (A 0) (134 + 134 * j) s) b)
    (c1 : rT K g 5 a4 (acc b1 b2 c u)) (c2 : rT K g 6 b1 (chc z)) (c3 : rT K g 7 b2 (bfc bf)) (hc : c < 24) (c6 : ∀ i, i < 24 → ∃ f, rT K g (30 + i) (bf i) (inc 32 f)) (c7 : ∀ j, j < u → ∃ s f, s < m ∧ z ((c + 24 - u + j) % 24) = some (qs s) ∧ K (bf ((c + 24 - u + j) % 24)) = some (inc 32 f) ∧ pst (A 0) u b j s f)
    (hs : s < m) (hf : ∀ v, v < nk_wm b → f v = shF (A 0) 0 s v) (hr1 : ∀ v, v < nk_wm b → fn v = shF r' 0 s v) (hr2 : ∀ i, i < 134 → ¬ (6 + 32 * s ≤ i ∧ i < 6 + 32 * s + nk_wm b) → r' i = A 0 i) (hr3 : ∀ i, 134 ≤ i → i < 3618 → r' i = a_kp (A 0) u i) (hz : gz (shF r' 0 s) b)
    (e0 : A' 0 = r') (e1 : A' 1 = A 1) (e2 : A' 2 = A 2) (e3 : A' 3 = A 3) (e4 : A' 4 = A 4) (e5 : A' 5 = A 5) (e6 : A' 6 = A 6) (i0 : I' 0 = nI (u_kp u + 1)) (i1 : I' 1 = I 1) (i2 : I' 2 = I 2) (i3 : I' 3 = I 3) (i4 : I' 4 = I 4) : cW (nk_u (nk_u (nk_u (nk_u K b1 (chc (va_up z c (some (qs s))))) (bf c) (inc 32 (va_cpy f g0 0 0 (nk_wm b)))) a4 (acc b1 b2 ((c + 1) % 24) (min (u + 1) 24))) (ws s) (inc (nk_wm b) fn)) g o A' I' m b (u_kp u + 1) l t := by
  obtain ⟨h1, h2, h3, h4, h5⟩ := hx
  have hu := hn.2.2.1
  have hm4 := s2.2.2.2.1
  have hwm := wm_f b s2.2.2.2.2.2.1 s2.2.2.2.2.1
  have hu2 : u_kp u + 1 = min (u + 1) 24 := by unfold u_kp; split <;> omega
  have hu3 := u_kp_le hu
  obtain ⟨gx, hgx⟩ := c6 c hc
  have k1 : rk (fun y => y ≠ 6) K g (nk_u K b1 (chc (va_up z c (some (qs s))))) g := rk.u c2.2
  have k2 : rk (fun y => y ≠ 30 + c) (nk_u K b1 (chc (va_up z c (some (qs s))))) g (nk_u (nk_u K b1 (chc (va_up z c (some (qs s))))) (bf c) (inc 32 (va_cpy f g0 0 0 (nk_wm b)))) g := rk.u hgx.2
  have k3 : rk (fun y => y ≠ 5) (nk_u (nk_u K b1 (chc (va_up z c (some (qs s))))) (bf c) (inc 32 (va_cpy f g0 0 0 (nk_wm b)))) g (nk_u (nk_u (nk_u K b1 (chc (va_up z c (some (qs s))))) (bf c) (inc 32 (va_cpy f g0 0 0 (nk_wm b)))) a4 (acc b1 b2 ((c + 1) % 24) (min (u + 1) 24))) g := rk.u c1.2
  have k4 : rk (fun y => y ≠ 66 + s) (nk_u (nk_u (nk_u K b1 (chc (va_up z c (some (qs s))))) (bf c) (inc 32 (va_cpy f g0 0 0 (nk_wm b)))) a4 (acc b1 b2 ((c + 1) % 24) (min (u + 1) 24))) g (nk_u (nk_u (nk_u (nk_u K b1 (chc (va_up z c (some (qs s))))) (bf c) (inc 32 (va_cpy f g0 0 0 (nk_wm b)))) a4 (acc b1 b2 ((c + 1) % 24) (min (u + 1) 24))) (ws s) (inc (nk_wm b) fn)) g := rk.u ((s3.2.2.2 s hs).2.trans (by omega))
  have k12 := k1.tr k2
  have k123 := k12.tr k3
  have k1234 := k123.tr k4
  have c1' : rT (nk_u (nk_u (nk_u K b1 (chc (va_up z c (some (qs s))))) (bf c) (inc 32 (va_cpy f g0 0 0 (nk_wm b)))) a4 (acc b1 b2 ((c + 1) % 24) (min (u + 1) 24))) g 5 a4 (acc b1 b2 ((c + 1) % 24) (min (u + 1) 24)) := ⟨nk_u_self _ _ _, c1.2⟩
  have c2' := ((c2.u (e' := chc (va_up z c (some (qs s))))).mv k2 (by omega)).mv k3 (by omega)
  have c4' : rT (nk_u (nk_u K b1 (chc (va_up z c (some (qs s))))) (bf c) (inc 32 (va_cpy f g0 0 0 (nk_wm b)))) g (30 + c) (bf c) (inc 32 (va_cpy f g0 0 0 (nk_wm b))) := ⟨nk_u_self _ _ _, hgx.2⟩
  have hinj : ∀ x y, x < m → y < m → ws x = ws y → x = y := fun x y hx hy e => by
    have t1 := (s3.2.2.2 x hx).2
    have t2 := (s3.2.2.2 y hy).2
    rw [e] at t1; omega
  have hlow : ∀ i, i < 6 → r' i = A 0 i := fun i hi => hr2 i (by omega) (by omega)
  have hoth : ∀ s', s' < 4 → s' ≠ s → ∀ v, v < 32 → shF (A 0) 0 s' v = shF r' 0 s' v := fun s' hs' hne v hv => (hr2 _ (by omega) (by omega)).symm
  have hS' : shV r' 0 m b := by
    obtain ⟨v1, v2, v3, v4, v5, v6, v7⟩ := s2
    refine ⟨(hlow 0 (by omega)).trans v1, (hlow 1 (by omega)).trans v2, v3, v4, v5, v6, fun s' hs' => ⟨?_, ?_⟩⟩
    · rw [hlow _ (by omega)]; exact (v7 s' hs').1
    · by_cases e : s' = s
      · rw [e]; exact hz
      · exact gz_cg (v7 s' hs').2 (hoth s' (by omega) e)
  have hSw : cSw (nk_u (nk_u (nk_u (nk_u K b1 (chc (va_up z c (some (qs s))))) (bf c) (inc 32 (va_cpy f g0 0 0 (nk_wm b)))) a4 (acc b1 b2 ((c + 1) % 24) (min (u + 1) 24))) (ws s) (inc (nk_wm b) fn)) g 0 q sa m b qs ws r' 0 := by
    have w1 := s3.mv hm4 k123 (fun t z1 z2 => ⟨⟨by omega, by omega⟩, by omega⟩)
    refine ⟨(w1.1.put hinj hs (F' := shF r' 0) (fun v hv => hr1 v hv) (fun s' hs' hne v hv => hoth s' (by omega) hne v (by omega))).cg (fun j hj => (hlow _ (by omega)).symm) (fun _ _ _ _ => rfl), w1.2⟩
  have hpast : ∀ j i, j < u_kp u → i < 134 → r' (134 + 134 * j + i) = A 0 (134 + 134 * (j + (if u = 24 then 1 else 0)) + i) := fun j i hj hi => by rw [hr3 _ (by omega) (by omega), a_kp_p hu hj hi]
  have hlast : ∀ i, i < 134 → r' (134 + 134 * u_kp u + i) = A 0 i := fun i hi => by rw [hr3 _ (by omega) (by omega), a_kp_n hi]
  have hdu : u_kp u + (if u = 24 then 1 else 0) = u := by unfold u_kp; split <;> omega
  refine ⟨⟨fun r hr => by rw [e3]; exact hn.1 r hr, i0, by omega, by rw [i1]; exact hn.2.2.2.1, hn.2.2.2.2.1, by rw [i4]; exact hn.2.2.2.2.2.1, hn.2.2.2.2.2.2⟩, a1, a2, a3, a4, a5, some q, ⟨?_, ?_, ?_, ?_, ?_⟩, Or.inr ⟨q, sa, qs, ws, rfl, by rw [e0]; exact hS', by rw [e0]; exact hSw, ?_, ?_⟩⟩
  · rw [i2, i3]; exact h1.mv k1234 ⟨⟨⟨by omega, by omega⟩, by omega⟩, by omega⟩
  · rw [e2, e3, e4]; exact h2.mv k1234 (fun t z => ⟨⟨⟨by omega, by omega⟩, by omega⟩, by omega⟩)
  · rw [e5]; exact h3.mv k1234 (fun t z => ⟨⟨⟨by omega, by omega⟩, by omega⟩, by omega⟩)
  · rw [e0, e1]
    exact (h4.mv k1234 (fun t z => ⟨⟨⟨by omega, by omega⟩, by omega⟩, by omega⟩)).cg (fun i hi1 hi2 => by rw [hr3 i (by omega) (by omega), a_kp_hi hu hi1])
  · rw [e6]; exact h5.mv k1234 (fun t z => ⟨⟨⟨by omega, by omega⟩, by omega⟩, by omega⟩)
  · rw [e0]
    refine ⟨b1, b2, va_up z c (some (qs s)), bf, (c + 1) % 24, by rw [hu2]; exact c1'.mv k4 (by omega), c2'.mv k4 (by omega), c3.mv k1234 ⟨⟨⟨by omega, by omega⟩, by omega⟩, by omega⟩, Nat.mod_lt _ (by omega), by omega, fun i hi => ?_, fun j hj => ?_⟩
    · by_cases e : i = c
      · rw [e]; exact ⟨_, (c4'.mv k3 (by omega)).mv k4 (by omega)⟩
      · obtain ⟨fi, hfi⟩ := c6 i hi
        exact ⟨fi, hfi.mv k1234 ⟨⟨⟨by omega, by omega⟩, by omega⟩, by omega⟩⟩
    · by_cases e : j = u_kp u
      · have hix : ((c + 1) % 24 + 24 - (u_kp u + 1) + j) % 24 = c := by omega
        rw [hix]
        refine ⟨s, va_cpy f g0 0 0 (nk_wm b), hs, by simp [va_up], ((c4'.mv k3 (by omega)).mv k4 (by omega)).1, fun i hi => ?_⟩
        rw [e, hlast i hi]
        have hnx : nxp (u_kp u + 1) (u_kp u) = 0 := by unfold nxp; rw [if_pos rfl]
        rw [hnx, Nat.zero_add]
        by_cases y : 6 + 32 * s ≤ i ∧ i < 6 + 32 * s + nk_wm b
        · rw [if_pos y]
          unfold va_cpy
          rw [if_pos (by omega), Nat.zero_add, Nat.sub_zero, hf _ (by omega)]
          exact congrArg (A 0) (by omega)
        · rw [if_neg y, hr2 i hi y]
      · have hj2 : j < u_kp u := by omega
        have hix : ((c + 1) % 24 + 24 - (u_kp u + 1) + j) % 24 = (c + 24 - u + (j + (if u = 24 then 1 else 0))) % 24 := by
          unfold u_kp at *
          by_cases y : u = 24
          · rw [if_pos y] at *; omega
          · rw [if_neg y] at *; omega
        have hne : (c + 24 - u + (j + (if u = 24 then 1 else 0))) % 24 ≠ c := by
          unfold u_kp at *
          by_cases y : u = 24
          · rw [if_pos y] at *; omega
          · rw [if_neg y] at *; omega
        obtain ⟨sj, fj, p1, p2, p3, p4⟩ := c7 (j + (if u = 24 then 1 else 0)) (by omega)
        rw [hix]
        have hlt : (c + 24 - u + (j + (if u = 24 then 1 else 0))) % 24 < 24 := Nat.mod_lt _ (by omega)
        obtain ⟨fi, hfi⟩ := c6 _ hlt
        refine ⟨sj, fj, p1, by simp only [va_up, if_neg hne]; exact p2, (k1234 _ _ p3 (by rw [hfi.2]; exact ⟨⟨⟨by omega, by omega⟩, by omega⟩, by omega⟩)).1, fun i hi => ?_⟩
        rw [hpast j i hj2 hi, p4 i hi]
        by_cases y : 6 + 32 * sj ≤ i ∧ i < 6 + 32 * sj + nk_wm b
        · rw [if_pos y, if_pos y]
        · rw [if_neg y, if_neg y]
          have hn2 : nxp (u_kp u + 1) j = 134 + 134 * (j + 1) := by unfold nxp; rw [if_neg (by omega)]
          rw [hn2]
          by_cases x : j + 1 = u_kp u
          · have hn3 : nxp u (j + (if u = 24 then 1 else 0)) = 0 := by unfold nxp; rw [if_pos (by omega)]
            rw [hn3, x, hlast i hi, Nat.zero_add]
          · have hn3 : nxp u (j + (if u = 24 then 1 else 0)) = 134 + 134 * (j + (if u = 24 then 1 else 0) + 1) := by unfold nxp; rw [if_neg (by omega)]
            rw [hn3, hpast (j + 1) i (by omega) hi]
            exact congrArg (A 0) (by omega)
  · rw [e0]
    intro j hj s' hs'
    by_cases e : j = u_kp u
    · refine gz_cg (s2.2.2.2.2.2.2 s' hs').2 (fun v hv => ?_)
      show A 0 (0 + 6 + 32 * s' + v) = r' (134 + 134 * j + 6 + 32 * s' + v)
      rw [e, show 134 + 134 * u_kp u + 6 + 32 * s' + v = 134 + 134 * u_kp u + (6 + 32 * s' + v) by omega, hlast _ (by omega)]
      all_goals exact congrArg (A 0) (by omega)
    · refine gz_cg (s5 (j + (if u = 24 then 1 else 0)) (by omega) s' hs') (fun v hv => ?_)
      show A 0 (134 + 134 * (j + (if u = 24 then 1 else 0)) + 6 + 32 * s' + v) = r' (134 + 134 * j + 6 + 32 * s' + v)
      rw [show 134 + 134 * j + 6 + 32 * s' + v = 134 + 134 * j + (6 + 32 * s' + v) by omega, hpast j _ (by omega) (by omega)]
      all_goals exact congrArg (A 0) (by omega)
end ACT

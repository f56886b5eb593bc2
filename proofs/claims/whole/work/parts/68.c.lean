/-! the class: a shelf told -/
/-- the reference's state after a shelf was told -/
def pSh (o : Nat) (A : Nat → Nat → Int32) (I : Nat → Int32) (R : Nat × Nat × (Nat → Int32)) : Option Value → nk_AH → Prop := fun v K' => v = some (.int (if R.1 = 0 then R.2.2 0 else -1000100 - nI R.2.1)) ∧ ∀ (x y z : Int32) (f : Nat → Int32), (R.1 = 0 → f = R.2.2) → ∃ g m b u l t, cW K' g o (sh_A R.1 f A) (i3 (sh_I R.1 I) x y z) m b u l t
theorem tz_at0 {F f : Nat → Int32} {i : Nat} (h : i < 3618) : tz F f i = F i := tz_lo h
theorem sh_cp {F f : Nat → Int32} {i : Nat} (h : i < 134) : va_cpy (tz F f) (tz F f) 3618 0 134 i = f i := by
  unfold va_cpy
  rw [if_pos (by omega), Nat.sub_zero, tz_at h]
theorem sh_hi {F f : Nat → Int32} {i : Nat} (h : 134 ≤ i) (h2 : i < 3618) : va_cpy (tz F f) (tz F f) 3618 0 134 i = F i := by
  rw [va_cpy_out (by omega), tz_lo h2]
theorem pinv.V {r : Nat → Int32} {m b : Nat} (h : pinv r m b) (h0 : r 0 = nI m) (h1 : 1 ≤ m) (h4 : m ≤ 4) (hb2 : 2 ≤ b) (hb : b ≤ 10) : shV r 0 m b := ⟨h0, h.1, h1, h4, hb2, hb, fun s hs => ⟨by
  obtain ⟨kk, k1, k2, k3⟩ := (h.2.1 s hs).1
  exact ⟨kk, k1, k2, by rw [Nat.zero_add]; exact k3⟩, (h.2.1 s hs).2⟩⟩
theorem cWs.cg {K : nk_AH} {g : Nat → Nat} {r r' : Nat → Int32} {m b u a4 : Nat} {sh : Option Nat} (h : cWs K g r m b u a4 sh) (e : ∀ i, i < 3618 → r i = r' i) : cWs K g r' m b u a4 sh := by
  rcases h with ⟨h1, h2, h3, h4, h5, h6, h7⟩ | ⟨q, sa, qs, ws, h1, s2, s3, s4, s5⟩
  · obtain ⟨b1, b2, z, bf, c, c1, c2, c3, hc, hu, c6, c7⟩ := h7
    exact Or.inl ⟨h1, h2, h3, h4, (e 0 (by omega)).symm.trans h5, (e 1 (by omega)).symm.trans h6, b1, b2, z, bf, c, c1, c2, c3, hc, hu, c6, fun j hj => by omega⟩
  · have hm4 := s2.2.2.2.1
    obtain ⟨b1, b2, z, bf, c, c1, c2, c3, hc, hu, c6, c7⟩ := s4
    refine Or.inr ⟨q, sa, qs, ws, h1, s2.cg (fun i hi => e _ (by omega)), s3.cg s2 (fun i hi => e _ (by omega)), ⟨b1, b2, z, bf, c, c1, c2, c3, hc, hu, c6, fun j hj => ?_⟩, fun j hj s hs => gz_cg (s5 j hj s hs) (fun v hv => e _ (by omega))⟩
    obtain ⟨sj, fj, p1, p2, p3, p4⟩ := c7 j hj
    refine ⟨sj, fj, p1, p2, p3, fun i hi => ?_⟩
    have q1 : nxp u j + i < 3618 := by unfold nxp; split <;> omega
    rw [← e _ (by omega), p4 i hi, ← e _ q1]
set_option maxRecDepth 20000 in
theorem s_X7_shelf {G : nk_EG} {K : nk_AH} {g : Nat → Nat} {o m b u l t : Nat} {A : Nat → Nat → Int32} {I : Nat → Int32} (hW : cW K g o A I m b u l t) : nk_S G mX7_shelf 15 14 236 [.ref o] K (pSh o A I (tp_all (A 5) l)) := by
  refine nk_S.of (by decide +kernel) (Nat.le_of_ble_eq_true rfl) rfl ?_
  obtain ⟨hn, a1, a2, a3, a4, a5, sh, hx, hs⟩ := id hW
  obtain ⟨y, fy, x1, x2, x3, x4, x5, q1, q2, q3⟩ := hx.2.2.1
  have hl := hn.2.2.2.2.1
  obtain ⟨b1, b2, zz, bf, c, c1, c2, c3, hc, c6⟩ := hs.ac
  have dif : ∀ {x y tx ty : Nat}, g x = tx → g y = ty → tx ≠ ty → x ≠ y := fun h1 h2 h3 e => h3 (by rw [← h1, ← h2, e])
  have do2 : o ≠ a2 := dif hx.1.2 q1.2 (by omega)
  have do4 : o ≠ a4 := dif hx.1.2 c1.2 (by omega)
  have d24 : a2 ≠ a4 := dif q1.2 c1.2 (by omega)
  have dy2 : y ≠ a2 := dif q2.2 q1.2 (by omega)
  have dyo : y ≠ o := dif q2.2 hx.1.2 (by omega)
  have dy4 : y ≠ a4 := dif q2.2 c1.2 (by omega)
  have db1o : b1 ≠ o := dif c2.2 hx.1.2 (by omega)
  have db2o : b2 ≠ o := dif c3.2 hx.1.2 (by omega)
  have db12 : b1 ≠ a2 := dif c2.2 q1.2 (by omega)
  have db22 : b2 ≠ a2 := dif c3.2 q1.2 (by omega)
  generalize hR : tp_all (A 5) l = R
  have hrd := s_X6_readShelf (G := G) q1.1 q2.1 q3 hl
  rw [hR] at hrd
  refine nk_aload_n (i := 0) dX7_shelf_0 rfl rfl ?_
  refine nk_getf fX7_18 dX7_shelf_1 hx.1.1 rfl ?_
  refine nk_cV (bc' := 0) (bs' := 0) kX7_100 hrd dX7_shelf_4 q1.1 rfl rfl (by decide) (Nat.le_of_ble_eq_true rfl) ⟨Nat.le_refl _, Nat.le_refl _⟩ (fun rr H1 hr => ?_)
  obtain ⟨hok, hbad⟩ := hr
  by_cases h0 : R.1 = 0
  · obtain ⟨s, sa, m', b', qs2, ws2, rfl, hp, hpi, hm0, hm1, hm4, hb2, hb10⟩ := hok h0
    have hkeep := hp.keep
    have hS1 := hp.1.2.1
    obtain ⟨⟨cT, t1, bh, tt, ww, rfl, -⟩, f1, t3, t4⟩ := hp.2
    have fr : ∀ {x e}, H1 x = some e → e ≠ tpc y l (nI R.2.1) bh tt ww (nI 0) → nk_d K a2 x = none → K x = none := fun {x e} h1 h2 h3 => nk_d_no h3 (nk_cdif h1 t1 h2)
    have f1' : K s = none := fr hS1.1 (by intro z; simp at z) hp.1.2.2.1
    have f2' : K sa = none := fr hS1.2.1 (by intro z; cases z) hp.1.2.2.2.1
    have f3' : ∀ j, j < m' → K (qs2 j) = none ∧ K (ws2 j) = none := fun j hj => by
      obtain ⟨fk, k1, -⟩ := hS1.2.2 j hj
      exact ⟨fr k1.1 (by intro z; simp at z) (hp.1.2.2.2.2.1 j hj).1, fr k1.2 (by intro z; cases z) (hp.1.2.2.2.2.1 j hj).2⟩
    obtain ⟨g1, g2, g3⟩ := tgn_new (g := g) (c := 0) hS1 hm4 f1' f2' f3' hp.1.2.2.2.2.2
    have k1 : rk (fun y => y ≠ 2) K g H1 (tgn K g s sa m' qs2 ws2 0) := tgn_rk (fun x e h1 h2 => hkeep x e (fun z => h2 (by rw [z]; exact q1.2)) h1)
    have o1 := hx.1.mv k1 (by omega)
    have gt : tgn K g s sa m' qs2 ws2 0 a2 = 2 := (tgn_old q1.1).trans q1.2
    have k2 : ∀ e, rk (fun y => y ≠ 2) H1 (tgn K g s sa m' qs2 ws2 0) (nk_u H1 a2 e) (tgn K g s sa m' qs2 ws2 0) := fun e => rk.u gt
    have o2 := fun e => o1.mv (k2 e) (by omega)
    have k3 : ∀ e e', rk (fun y => y ≠ 0) (nk_u H1 a2 e) (tgn K g s sa m' qs2 ws2 0) (nk_u (nk_u H1 a2 e) o e') (tgn K g s sa m' qs2 ws2 0) := fun e e' => rk.u (o2 e).2
    have a4' := fun e e' => ((c1.mv k1 (by omega)).mv (k2 e) (by omega)).mv (k3 e e') (by omega)
    have k4 : ∀ e e' e'', rk (fun y => y ≠ 5) (nk_u (nk_u H1 a2 e) o e') (tgn K g s sa m' qs2 ws2 0) (nk_u (nk_u (nk_u H1 a2 e) o e') a4 e'') (tgn K g s sa m' qs2 ws2 0) := fun e e' e'' => rk.u (a4' e e').2
    have k24 := fun e e' e'' => ((k2 e).tr (k3 e e')).tr (k4 e e' e'')
    have k14 := fun e e' e'' => k1.tr (k24 e e' e'')
    have hSw : cSw H1 (tgn K g s sa m' qs2 ws2 0) 0 s sa m' b' qs2 ws2 R.2.2 0 := ⟨hS1, g1, g2, g3⟩
    have hshV := hpi.V hm0 hm1 hm4 hb2 hb10
    have q2' := q2.mv k1 (by omega)
    have q1' : ∀ e, rT (nk_u H1 a2 e) (tgn K g s sa m' qs2 ws2 0) 2 a2 e := fun e => ⟨nk_u_self _ _ _, gt⟩
    have hsd : ∀ {e e' e''}, nk_u (nk_u (nk_u H1 a2 e) o e') a4 e'' s = some (shc b' sa m') := fun {e e' e''} => ((hSw.mv hm4 (k24 e e' e'') (fun t z1 z2 => ⟨⟨by omega, by omega⟩, by omega⟩))).1.1
    refine nk_astore_nT (i := 1) dX7_shelf_7 rfl (by decide) ?_
    refine nk_aload_n (i := 0) dX7_shelf_8 rfl rfl ?_
    refine nk_getf fX7_18 dX7_shelf_9 o1.1 rfl ?_
    refine nk_iconst (v := 0) dX7_shelf_12 (by decide) ?_
    refine nk_putf pX7_93 dX7_shelf_13 t1 rfl rfl (Nat.le_of_ble_eq_true rfl) rfl ?_
    refine nk_aload_n (i := 1) dX7_shelf_16 rfl rfl ?_
    refine nk_ifnonnullR (tgt := 42) dX7_shelf_17 (by decide) ?_
    refine nk_aload_n (i := 0) dX7_shelf_42 rfl rfl ?_
    refine nk_aload_n (i := 1) dX7_shelf_43 rfl rfl ?_
    refine nk_putf pX7_42 dX7_shelf_44 (o2 _).1 rfl rfl (Nat.le_of_ble_eq_true rfl) rfl ?_
    refine nk_aload_n (i := 0) dX7_shelf_47 rfl rfl ?_
    refine nk_getf fX7_31 dX7_shelf_48 (nk_u_self _ _ _) rfl ?_
    refine nk_cVv kX7_111 (s_X0_forget (z := zz) (bf := bf) ⟨(a4' _ _).1, (((c2.mv k1 (by omega)).mv (k2 _) (by omega)).mv (k3 _ _) (by omega)).1, (((c3.mv k1 (by omega)).mv (k2 _) (by omega)).mv (k3 _ _) (by omega)).1⟩) dX7_shelf_51 (a4' _ _).1 rfl rfl (by decide) (Nat.le_of_ble_eq_true rfl) ?_
    refine nk_aload_n (i := 1) dX7_shelf_54 rfl rfl ?_
    refine nk_getf fX7_114 dX7_shelf_55 hsd rfl ?_
    refine nk_ireturn dX7_shelf_58 rfl ?_
    refine ⟨by rw [if_pos h0, hm0], fun x y' z f hf => ?_⟩
    have hfe := hf h0
    subst hfe
    have i2 : i3 (sh_I R.1 I) x y' z 2 = I 2 := by show sh_I R.1 I 2 = I 2; unfold sh_I; rw [if_pos h0]; rfl
    have i3' : i3 (sh_I R.1 I) x y' z 3 = I 3 := by show sh_I R.1 I 3 = I 3; unfold sh_I; rw [if_pos h0]; rfl
    refine ⟨tgn K g s sa m' qs2 ws2 0, m', b', 0, 0, t, cW.cur (l' := 0) hn hx (k14 _ _ _) (fun t z0 z2 z3 z5 => ⟨z2, ⟨⟨z2, z0⟩, z5⟩⟩) (by rw [i2, i3']; exact ((o2 _).u).mv (k4 _ _ _) (by omega)) ⟨y, fy, _, _, _, _, _, ((q1' _).mv (k3 _ _) (by omega)).mv (k4 _ _ _) (by omega), (q2'.mv (k24 _ _ _) ⟨⟨by omega, by omega⟩, by omega⟩), q3⟩ (by omega) ((a4' _ _).u) c2 c3 hc c6 ((hSw.mv hm4 (k24 _ _ _) (fun t z1 z2 => ⟨⟨by omega, by omega⟩, by omega⟩)).cg hshV (fun i hi => ?_)) (hshV.cg (fun i hi => ?_)) (fun i hi1 hi2 => ?_) rfl rfl rfl rfl rfl ?_ ?_ ?_⟩
    · show R.2.2 (0 + i) = (if R.1 = 0 then va_cpy (tz (A 0) R.2.2) (tz (A 0) R.2.2) 3618 0 134 else tz (A 0) R.2.2) (0 + i)
      rw [if_pos h0, sh_cp (by omega)]
    · show R.2.2 (0 + i) = (if R.1 = 0 then va_cpy (tz (A 0) R.2.2) (tz (A 0) R.2.2) 3618 0 134 else tz (A 0) R.2.2) (0 + i)
      rw [if_pos h0, sh_cp (by omega)]
    · show A 0 i = (if R.1 = 0 then va_cpy (tz (A 0) R.2.2) (tz (A 0) R.2.2) 3618 0 134 else tz (A 0) R.2.2) i
      rw [if_pos h0, sh_hi (by omega) (by omega)]
    · show sh_I R.1 I 0 = 0
      unfold sh_I; rw [if_pos h0]; rfl
    · show sh_I R.1 I 1 = nI 0
      unfold sh_I; rw [if_pos h0]; rfl
    · show sh_I R.1 I 4 = I 4
      unfold sh_I; rw [if_pos h0]; rfl
  · obtain ⟨rfl, hkeep, hT⟩ := hbad h0
    obtain ⟨⟨cT, t1, bh, tt, ww, rfl, -⟩, f1, t3, t4⟩ := hT
    have k1 : rk (fun y => y ≠ 2) K g H1 g := fun x e h1 h2 => ⟨hkeep x e (fun z => h2 (by rw [z]; exact q1.2)) h1, rfl⟩
    have o1 := hx.1.mv k1 (by omega)
    have k2 : ∀ e, rk (fun y => y ≠ 2) H1 g (nk_u H1 a2 e) g := fun e => rk.u q1.2
    have o2 := fun e => o1.mv (k2 e) (by omega)
    have k3 : ∀ e e', rk (fun y => y ≠ 0) (nk_u H1 a2 e) g (nk_u (nk_u H1 a2 e) o e') g := fun e e' => rk.u (o2 e).2
    have k13 := fun e e' => (k1.tr (k2 e)).tr (k3 e e')
    have q1' : ∀ e, rT (nk_u H1 a2 e) g 2 a2 e := fun e => ⟨nk_u_self _ _ _, q1.2⟩
    refine nk_J.to (st' := [.null]) ?_ rfl rfl rfl
    refine nk_astore_nNT (i := 1) dX7_shelf_7 rfl (by decide) ?_
    refine nk_aload_n (i := 0) dX7_shelf_8 rfl rfl ?_
    refine nk_getf fX7_18 dX7_shelf_9 o1.1 rfl ?_
    refine nk_iconst (v := 0) dX7_shelf_12 (by decide) ?_
    refine nk_putf pX7_93 dX7_shelf_13 t1 rfl rfl (Nat.le_of_ble_eq_true rfl) rfl ?_
    refine nk_aload_nN (i := 1) dX7_shelf_16 rfl rfl ?_
    refine nk_ifnonnullN dX7_shelf_17 ?_
    refine nk_aload_n (i := 0) dX7_shelf_20 rfl rfl ?_
    refine nk_aload_n (i := 0) dX7_shelf_21 rfl rfl ?_
    refine nk_getf fX7_18 dX7_shelf_22 (o2 _).1 rfl ?_
    refine nk_getf fX7_104 dX7_shelf_25 (nk_u_self _ _ _) rfl ?_
    refine nk_putf pX7_46 dX7_shelf_28 (o2 _).1 rfl rfl (Nat.le_of_ble_eq_true rfl) rfl ?_
    refine nk_ldc qX7_107 dX7_shelf_31 ?_
    refine nk_aload_n (i := 0) dX7_shelf_33 rfl rfl ?_
    refine nk_getf fX7_18 dX7_shelf_34 (nk_u_self _ _ _) rfl ?_
    refine nk_getf fX7_108 dX7_shelf_37 ((q1' _).mv (k3 _ _) (by omega)).1 rfl ?_
    refine nk_isub dX7_shelf_40 ?_
    refine nk_ireturn dX7_shelf_41 rfl ?_
    refine ⟨by rw [if_neg h0], fun x y' z f hf => ?_⟩
    refine ⟨g, m, b, u, 0, t, ⟨fun r hr => hn.1 r hr, ?_, hn.2.2.1, ?_, by omega, ?_, hn.2.2.2.2.2.2⟩, a1, a2, a3, a4, a5, sh, ⟨?_, hx.2.1.mv (k13 _ _) (fun t z => ⟨⟨by omega, by omega⟩, by omega⟩), ⟨y, fy, _, _, _, _, _, (q1' _).mv (k3 _ _) (by omega), q2.mv (k13 _ _) ⟨⟨by omega, by omega⟩, by omega⟩, q3⟩, (hx.2.2.2.1.mv (k13 _ _) (fun t z => ⟨⟨by omega, by omega⟩, by omega⟩)).cg (fun i hi1 hi2 => ?_), hx.2.2.2.2.mv (k13 _ _) (fun t z => ⟨⟨by omega, by omega⟩, by omega⟩)⟩, (hs.mv (k13 _ _) (fun t z => ⟨⟨by omega, by omega⟩, by omega⟩)).cg (fun i hi => ?_)⟩
    · show sh_I R.1 I 0 = nI u
      unfold sh_I; rw [if_neg h0]; exact hn.2.1
    · show sh_I R.1 I 1 = nI 0
      unfold sh_I; rw [if_neg h0]; rfl
    · show sh_I R.1 I 4 = nI t
      unfold sh_I; rw [if_neg h0]; exact hn.2.2.2.2.2.1
    · have i2 : i3 (sh_I R.1 I) x y' z 2 = nI R.1 := by show sh_I R.1 I 2 = nI R.1; unfold sh_I; rw [if_neg h0]; rfl
      have i3' : i3 (sh_I R.1 I) x y' z 3 = I 3 := by show sh_I R.1 I 3 = I 3; unfold sh_I; rw [if_neg h0]; rfl
      rw [i2, i3']
      exact (o2 _).u
    · show A 0 i = (if R.1 = 0 then va_cpy (tz (A 0) f) (tz (A 0) f) 3618 0 134 else tz (A 0) f) i
      rw [if_neg h0, tz_lo (by omega)]
    · show A 0 i = (if R.1 = 0 then va_cpy (tz (A 0) f) (tz (A 0) f) 3618 0 134 else tz (A 0) f) i
      rw [if_neg h0, tz_lo hi]

/-! the state of the class beside that of the reference -/
def rT (K : nk_AH) (g : Nat → Nat) (t a : Nat) (e : nk_AC) : Prop := K a = some e ∧ g a = t
/-- cells of some tags are kept, tags too -/
def rk (T : Nat → Prop) (K : nk_AH) (g : Nat → Nat) (K' : nk_AH) (g' : Nat → Nat) : Prop := ∀ a e, K a = some e → T (g a) → K' a = some e ∧ g' a = g a
section RK
variable {T T2 : Nat → Prop} {K K' K2 : nk_AH} {g g' g2 : Nat → Nat} {t a : Nat} {e e' : nk_AC}
theorem rT.mv (h : rT K g t a e) (hr : rk T K g K' g') (ht : T t) : rT K' g' t a e := by
  obtain ⟨h1, h2⟩ := h
  subst h2
  obtain ⟨k1, k2⟩ := hr a e h1 ht
  exact ⟨k1, k2⟩
theorem rk.u (h : g a = t) : rk (fun x => x ≠ t) K g (nk_u K a e) g := fun b c hb ht => ⟨by rw [nk_u_ne (fun z => ht (by rw [z]; exact h))]; exact hb, rfl⟩
theorem rk.le (h : nk_le K K') : rk (fun _ => True) K g K' g := fun b c hb _ => ⟨h b c hb, rfl⟩
theorem rk.tr (h1 : rk T K g K' g') (h2 : rk T2 K' g' K2 g2) : rk (fun x => T x ∧ T2 x) K g K2 g2 := fun b c hb ht => by
  obtain ⟨k1, k2⟩ := h1 b c hb ht.1
  obtain ⟨j1, j2⟩ := h2 b c k1 (by rw [k2]; exact ht.2)
  exact ⟨j1, j2.trans k2⟩
theorem rk.wk (h : rk T K g K' g') (hw : ∀ x, T2 x → T x) : rk T2 K g K' g' := fun b c hb ht => h b c hb (hw _ ht)
theorem rk.new (hq : K a = none) : rk (fun _ => True) K g (nk_u K a e) (va_up g a t) := fun b c hb _ => by
  have hn : b ≠ a := nk_ne hb hq
  exact ⟨by rw [nk_u_ne hn]; exact hb, by simp [va_up, hn]⟩
theorem rT.u (h : rT K g t a e) : rT (nk_u K a e') g t a e' := ⟨nk_u_self _ _ _, h.2⟩
end RK
abbrev rwc (z : Nat → Option Nat) : nk_AC := .inl (.object RX4, 8, .inr (.inr (.inr (.inr z))))
abbrev imc (z : Nat → Option Nat) : nk_AC := .inl (.object RX5, 2, .inr (.inr (.inr (.inr z))))
abbrev roc (l : Int32) (y : Nat) : nk_AC := .inr (3, [.int l, .ref y])
/-- a row of the class: lanes A2, sizes A3, items A4 of the reference -/
def cRr (K : nk_AH) (g : Nat → Nat) (r : Nat) (v : Option Nat) (A2 A3 A4 : Nat → Int32) : Prop := (v = none ∧ ¬ 0 ≤ A3 r) ∨ ∃ x y n f, v = some x ∧ A3 r = nI n ∧ n ≤ 40 ∧ rT K g (10 + r) x (roc (A2 r) y) ∧ rT K g (20 + r) y (inc n f) ∧ ∀ j, j < n → f j = A4 (40 * r + j)
def cRw (K : nk_AH) (g : Nat → Nat) (a : Nat) (A2 A3 A4 : Nat → Int32) : Prop := ∃ z, rT K g 1 a (rwc z) ∧ ∀ r, r < 8 → cRr K g r (z r) A2 A3 A4
def cTw (K : nk_AH) (g : Nat → Nat) (a : Nat) (T : Nat → Int32) (l : Nat) : Prop := ∃ y f x1 x2 x3 x4 x5, rT K g 2 a (tpc y l x1 x2 x3 x4 x5) ∧ rT K g 3 y (inc 110 f) ∧ ∀ j, j < 110 → f j = T j
def cQw (K : nk_AH) (g : Nat → Nat) (a : Nat) (L : Nat → Int32) (t : Nat) : Prop := ∃ y f, rT K g 8 a (akc y t) ∧ rT K g 9 y (inc 16 f) ∧ ∀ j, j < 16 → f j = L j
/-- a shelf of region c -/
def cSw (K : nk_AH) (g : Nat → Nat) (c q sa m b : Nat) (qs ws : Nat → Nat) (r : Nat → Int32) (base : Nat) : Prop := cS K q sa m b qs ws (shK r base) (shF r base) ∧ g q = 60 + 20 * c ∧ g sa = 61 + 20 * c ∧ ∀ s, s < m → g (qs s) = 62 + 20 * c + s ∧ g (ws s) = 66 + 20 * c + s
def cI1 (K : nk_AH) (g : Nat → Nat) (k : Nat) (v : Option Nat) (r kp : Nat → Int32) : Prop := (v = none ∧ kp k = 0) ∨ (¬ kp k = 0 ∧ ∃ q sa m b qs ws, v = some q ∧ shV r (3350 + 134 * k) m b ∧ cSw K g (k + 1) q sa m b qs ws r (3350 + 134 * k))
def cIw (K : nk_AH) (g : Nat → Nat) (a : Nat) (r kp : Nat → Int32) : Prop := ∃ z, rT K g 4 a (imc z) ∧ ∀ k, k < 2 → cI1 K g k (z k) r kp
def nxp (u j : Nat) : Nat := if j + 1 = u then 0 else 134 + 134 * (j + 1)
/-- past j of u: as the next one, but for the words of set s -/
def pst (r : Nat → Int32) (u b j s : Nat) (f : Nat → Int32) : Prop := ∀ i, i < 134 → r (134 + 134 * j + i) = if 6 + 32 * s ≤ i ∧ i < 6 + 32 * s + nk_wm b then f (i - (6 + 32 * s)) else r (nxp u j + i)
def cAw (K : nk_AH) (g : Nat → Nat) (a m b : Nat) (qs : Nat → Nat) (r : Nat → Int32) (u : Nat) : Prop := ∃ a1 a2 z bf c, rT K g 5 a (acc a1 a2 c u) ∧ rT K g 6 a1 (chc z) ∧ rT K g 7 a2 (bfc bf) ∧ c < 24 ∧ u ≤ 24 ∧ (∀ i, i < 24 → ∃ f, rT K g (30 + i) (bf i) (inc 32 f)) ∧ ∀ j, j < u → ∃ s f, s < m ∧ z ((c + 24 - u + j) % 24) = some (qs s) ∧ K (bf ((c + 24 - u + j) % 24)) = some (inc 32 f) ∧ pst r u b j s f
section MV
variable {T : Nat → Prop} {K K' : nk_AH} {g g' : Nat → Nat} {a : Nat}
theorem cRr.mv {r : Nat} {v : Option Nat} {A2 A3 A4 : Nat → Int32} (h : cRr K g r v A2 A3 A4) (hr : rk T K g K' g') (h1 : T (10 + r)) (h2 : T (20 + r)) : cRr K' g' r v A2 A3 A4 := by
  rcases h with h | ⟨x, y, n, f, k1, k2, k3, k4, k5, k6⟩
  · exact Or.inl h
  · exact Or.inr ⟨x, y, n, f, k1, k2, k3, k4.mv hr h1, k5.mv hr h2, k6⟩
theorem cRw.mv {A2 A3 A4 : Nat → Int32} (h : cRw K g a A2 A3 A4) (hr : rk T K g K' g') (ht : ∀ t, t = 1 ∨ (10 ≤ t ∧ t < 28) → T t) : cRw K' g' a A2 A3 A4 := by
  obtain ⟨z, h1, h2⟩ := h
  exact ⟨z, h1.mv hr (ht 1 (Or.inl rfl)), fun r hr8 => (h2 r hr8).mv hr (ht _ (by omega)) (ht _ (by omega))⟩
theorem cTw.mv {X : Nat → Int32} {l : Nat} (h : cTw K g a X l) (hr : rk T K g K' g') (ht : ∀ t, t = 2 ∨ t = 3 → T t) : cTw K' g' a X l := by
  obtain ⟨y, f, x1, x2, x3, x4, x5, h1, h2, h3⟩ := h
  exact ⟨y, f, x1, x2, x3, x4, x5, h1.mv hr (ht _ (Or.inl rfl)), h2.mv hr (ht _ (Or.inr rfl)), h3⟩
theorem cQw.mv {X : Nat → Int32} {l : Nat} (h : cQw K g a X l) (hr : rk T K g K' g') (ht : ∀ t, t = 8 ∨ t = 9 → T t) : cQw K' g' a X l := by
  obtain ⟨y, f, h1, h2, h3⟩ := h
  exact ⟨y, f, h1.mv hr (ht _ (Or.inl rfl)), h2.mv hr (ht _ (Or.inr rfl)), h3⟩
theorem cSw.mv {c q sa m b base : Nat} {qs ws : Nat → Nat} {r : Nat → Int32} (h : cSw K g c q sa m b qs ws r base) (hm : m ≤ 4) (hr : rk T K g K' g') (ht : ∀ t, 60 + 20 * c ≤ t → t < 80 + 20 * c → T t) : cSw K' g' c q sa m b qs ws r base := by
  obtain ⟨⟨h1, h2, h3⟩, h4, h5, h6⟩ := h
  have k1 := hr q _ h1 (ht _ (by omega) (by omega))
  have k2 := hr sa _ h2 (ht _ (by omega) (by omega))
  have k3 : ∀ s, s < m → (K' (qs s) = K (qs s) ∧ K' (ws s) = K (ws s)) ∧ g' (qs s) = g (qs s) ∧ g' (ws s) = g (ws s) := fun s hs => by
    obtain ⟨f, j1, j2⟩ := h3 s hs
    obtain ⟨l1, l2⟩ := h6 s hs
    have z1 := hr _ _ j1.1 (ht _ (by omega) (by omega))
    have z2 := hr _ _ j1.2 (ht _ (by omega) (by omega))
    exact ⟨⟨z1.1.trans j1.1.symm, z2.1.trans j1.2.symm⟩, z1.2, z2.2⟩
  exact ⟨⟨k1.1, k2.1, fun s hs => (h3 s hs).at (k3 s hs).1.1 (k3 s hs).1.2⟩, k1.2.trans h4, k2.2.trans h5, fun s hs => ⟨(k3 s hs).2.1.trans (h6 s hs).1, (k3 s hs).2.2.trans (h6 s hs).2⟩⟩
theorem cI1.mv {k : Nat} {v : Option Nat} {r kp : Nat → Int32} (h : cI1 K g k v r kp) (hr : rk T K g K' g') (ht : ∀ t, 60 + 20 * (k + 1) ≤ t → t < 80 + 20 * (k + 1) → T t) : cI1 K' g' k v r kp := by
  rcases h with h | ⟨h0, q, sa, m, b, qs, ws, h1, h2, h3⟩
  · exact Or.inl h
  · exact Or.inr ⟨h0, q, sa, m, b, qs, ws, h1, h2, h3.mv h2.2.2.2.1 hr ht⟩
theorem cIw.mv {r kp : Nat → Int32} (h : cIw K g a r kp) (hr : rk T K g K' g') (ht : ∀ t, t = 4 ∨ (80 ≤ t ∧ t < 120) → T t) : cIw K' g' a r kp := by
  obtain ⟨z, h1, h2⟩ := h
  exact ⟨z, h1.mv hr (ht _ (Or.inl rfl)), fun k hk => (h2 k hk).mv hr (fun t t1 t2 => ht t (by omega))⟩
theorem cAw.mv {m b u : Nat} {qs : Nat → Nat} {r : Nat → Int32} (h : cAw K g a m b qs r u) (hr : rk T K g K' g') (ht : ∀ t, (5 ≤ t ∧ t ≤ 7) ∨ (30 ≤ t ∧ t < 54) → T t) : cAw K' g' a m b qs r u := by
  obtain ⟨a1, a2, z, bf, c, h1, h2, h3, h4, h5, h6, h7⟩ := h
  refine ⟨a1, a2, z, bf, c, h1.mv hr (ht _ (by omega)), h2.mv hr (ht _ (by omega)), h3.mv hr (ht _ (by omega)), h4, h5, fun i hi => ?_, fun j hj => ?_⟩
  · obtain ⟨f, hf⟩ := h6 i hi
    exact ⟨f, hf.mv hr (ht _ (by omega))⟩
  · obtain ⟨s, f, k1, k2, k3, k4⟩ := h7 j hj
    have hi : (c + 24 - u + j) % 24 < 24 := Nat.mod_lt _ (by omega)
    obtain ⟨f', hf'⟩ := h6 _ hi
    exact ⟨s, f, k1, k2, (hr _ _ k3 (by rw [hf'.2]; exact ht _ (by omega))).1, k4⟩
end MV
/-- the object and what lies beside shelf and acts -/
def cWx (K : nk_AH) (g : Nat → Nat) (o : Nat) (A : Nat → Nat → Int32) (I : Nat → Int32) (l t a1 a2 a3 a4 a5 : Nat) (sh : Option Nat) : Prop := rT K g 0 o (obc (.ref a1) (.ref a2) (.ref a3) (.ref a4) (.ref a5) (va_rf sh) (.int (I 2)) (.int (I 3))) ∧ cRw K g a1 (A 2) (A 3) (A 4) ∧ cTw K g a2 (A 5) l ∧ cIw K g a3 (A 0) (A 1) ∧ cQw K g a5 (A 6) t
/-- the shelf and the acts -/
def cWs (K : nk_AH) (g : Nat → Nat) (r : Nat → Int32) (m b u a4 : Nat) (sh : Option Nat) : Prop := (sh = none ∧ m = 0 ∧ b = 0 ∧ u = 0 ∧ r 0 = 0 ∧ r 1 = 0 ∧ cAw K g a4 0 0 id r 0) ∨ ∃ q sa qs ws, sh = some q ∧ shV r 0 m b ∧ cSw K g 0 q sa m b qs ws r 0 ∧ cAw K g a4 m b qs r u ∧ ∀ j, j < u → ∀ s, s < m → gz (shF r (134 + 134 * j) s) b
/-- the numbers of the reference's state -/
def cWn (A : Nat → Nat → Int32) (I : Nat → Int32) (u l t : Nat) : Prop := mRw A ∧ I 0 = nI u ∧ u ≤ 24 ∧ I 1 = nI l ∧ l ≤ 110 ∧ I 4 = nI t ∧ t ≤ 16
def cW (K : nk_AH) (g : Nat → Nat) (o : Nat) (A : Nat → Nat → Int32) (I : Nat → Int32) (m b u l t : Nat) : Prop := cWn A I u l t ∧ ∃ a1 a2 a3 a4 a5 sh, cWx K g o A I l t a1 a2 a3 a4 a5 sh ∧ cWs K g (A 0) m b u a4 sh
section CW
variable {T : Nat → Prop} {K K' : nk_AH} {g g' : Nat → Nat} {o : Nat} {A : Nat → Nat → Int32} {I : Nat → Int32} {m b u l t a1 a2 a3 a4 a5 : Nat} {sh : Option Nat} {r : Nat → Int32}
theorem cWs.mv (h : cWs K g r m b u a4 sh) (hr : rk T K g K' g') (ht : ∀ t, (5 ≤ t ∧ t ≤ 7) ∨ (30 ≤ t ∧ t < 54) ∨ (60 ≤ t ∧ t < 80) → T t) : cWs K' g' r m b u a4 sh := by
  rcases h with ⟨h1, h2, h3, h4, h5, h6, h7⟩ | ⟨q, sa, qs, ws, h1, h2, h3, h4, h5⟩
  · exact Or.inl ⟨h1, h2, h3, h4, h5, h6, h7.mv hr (fun t z => ht t (by omega))⟩
  · exact Or.inr ⟨q, sa, qs, ws, h1, h2, h3.mv h2.2.2.2.1 hr (fun t t1 t2 => ht t (by omega)), h4.mv hr (fun t z => ht t (by omega)), h5⟩
/-- what the shelf is, seen -/
theorem cWs.V (h : cWs K g (A 0) m b u a4 sh) (hx : cWx K g o A I l t a1 a2 a3 a4 a5 sh) : cV K o m b (A 0) := by
  rcases h with ⟨rfl, h2, h3, _⟩ | ⟨q, sa, qs, ws, rfl, h2, h3, _⟩
  · exact Or.inl ⟨_, _, _, _, _, _, _, hx.1.1, h2, h3⟩
  · exact Or.inr ⟨_, _, _, _, _, _, _, q, sa, qs, ws, hx.1.1, h3.1, h2⟩
theorem cW.V (h : cW K g o A I m b u l t) : cV K o m b (A 0) := by
  obtain ⟨-, a1, a2, a3, a4, a5, sh, h1, h2⟩ := h
  exact h2.V h1
theorem cW.le (h : cW K g o A I m b u l t) (hl : nk_le K K') : cW K' g o A I m b u l t := by
  obtain ⟨hn, a1, a2, a3, a4, a5, sh, ⟨h1, h2, h3, h4, h5⟩, h6⟩ := h
  have hr : rk (fun _ => True) K g K' g := rk.le hl
  exact ⟨hn, a1, a2, a3, a4, a5, sh, ⟨h1.mv hr trivial, h2.mv hr (fun _ _ => trivial), h3.mv hr (fun _ _ => trivial), h4.mv hr (fun _ _ => trivial), h5.mv hr (fun _ _ => trivial)⟩, h6.mv hr (fun _ _ => trivial)⟩
/-- the reference's own facts -/
theorem cW.ms (h : cW K g o A I m b u l t) : mSh (A 0) 0 m b ∧ (0 < b → 1 ≤ m) ∧ (0 < m → 0 < b) := by
  obtain ⟨-, a1, a2, a3, a4, a5, sh, h1, h2⟩ := h
  rcases h2 with ⟨_, rfl, rfl, _, h5, h6, _⟩ | ⟨q, sa, qs, ws, _, h2, _⟩
  · exact ⟨⟨h5, h6, by omega, by omega⟩, by omega, by omega⟩
  · exact ⟨⟨h2.1, h2.2.1, h2.2.2.2.1, h2.2.2.2.2.2.1⟩, fun _ => h2.2.2.1, fun _ => by have := h2.2.2.2.2.1; omega⟩
/-- the finding is written -/
theorem cW.fnd (hn : cWn A I u l t) (hx : cWx K g o A I l t a1 a2 a3 a4 a5 sh) (hs : cWs K g (A 0) m b u a4 sh) (x : Int32) : cW (nk_u K o (obc (.ref a1) (.ref a2) (.ref a3) (.ref a4) (.ref a5) (va_rf sh) (.int (I 2)) (.int x))) g o A (va_up I 3 x) m b u l t := by
  obtain ⟨h1, h2, h3, h4, h5⟩ := hx
  have hr : rk (fun y => y ≠ 0) K g (nk_u K o (obc (.ref a1) (.ref a2) (.ref a3) (.ref a4) (.ref a5) (va_rf sh) (.int (I 2)) (.int x))) g := rk.u h1.2
  refine ⟨⟨hn.1, hn.2.1, hn.2.2.1, hn.2.2.2.1, hn.2.2.2.2.1, hn.2.2.2.2.2.1, hn.2.2.2.2.2.2⟩, a1, a2, a3, a4, a5, sh, ⟨h1.u, h2.mv hr (fun t z => by omega), h3.mv hr (fun t z => by omega), h4.mv hr (fun t z => by omega), h5.mv hr (fun t z => by omega)⟩, hs.mv hr (fun t z => by omega)⟩
end CW

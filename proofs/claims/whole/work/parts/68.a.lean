/-! new shelves of the two states -/
/-- which of the first m it is; 4, if none -/
def tq (qs : Nat → Nat) (m x : Nat) : Nat := if qs 0 = x ∧ 0 < m then 0 else if qs 1 = x ∧ 1 < m then 1 else if qs 2 = x ∧ 2 < m then 2 else if qs 3 = x ∧ 3 < m then 3 else 4
theorem tq_at {qs : Nat → Nat} {m s : Nat} (hm : m ≤ 4) (hs : s < m) (hi : ∀ a b, a < m → b < m → qs a = qs b → a = b) : tq qs m (qs s) = s := by
  unfold tq
  have k : ∀ a, a ≠ s → ¬ (qs a = qs s ∧ a < m) := fun a ha z => ha (hi a s z.2 hs z.1)
  have h : s = 0 ∨ s = 1 ∨ s = 2 ∨ s = 3 := by omega
  rcases h with rfl | rfl | rfl | rfl
  · rw [if_pos ⟨rfl, hs⟩]
  · rw [if_neg (k 0 (by omega)), if_pos ⟨rfl, hs⟩]
  · rw [if_neg (k 0 (by omega)), if_neg (k 1 (by omega)), if_pos ⟨rfl, hs⟩]
  · rw [if_neg (k 0 (by omega)), if_neg (k 1 (by omega)), if_neg (k 2 (by omega)), if_pos ⟨rfl, hs⟩]
theorem tq_no {qs : Nat → Nat} {m x : Nat} (h : ∀ s, s < m → qs s ≠ x) : tq qs m x = 4 := by
  unfold tq
  have k : ∀ a, ¬ (qs a = x ∧ a < m) := fun a z => h a z.2 z.1
  rw [if_neg (k 0), if_neg (k 1), if_neg (k 2), if_neg (k 3)]
/-- tags of a new shelf's cells -/
def tgn (K : nk_AH) (g : Nat → Nat) (q a m : Nat) (qs ws : Nat → Nat) (c : Nat) : Nat → Nat := fun x => if (K x).isSome = true then g x else if x = q then 60 + 20 * c else if x = a then 61 + 20 * c else if tq qs m x < 4 then 62 + 20 * c + tq qs m x else 66 + 20 * c + tq ws m x
theorem tgn_old {K : nk_AH} {g : Nat → Nat} {q a m c x : Nat} {qs ws : Nat → Nat} {e : nk_AC} (h : K x = some e) : tgn K g q a m qs ws c x = g x := by
  unfold tgn
  rw [if_pos (by rw [h]; rfl)]
theorem tgn_new {K K1 : nk_AH} {g : Nat → Nat} {q a m b c : Nat} {qs ws : Nat → Nat} {κ : Nat → Int32} {F : Nat → Nat → Int32} (hS : cS K1 q a m b qs ws κ F) (hm : m ≤ 4) (f1 : K q = none) (f2 : K a = none) (f3 : ∀ s, s < m → K (qs s) = none ∧ K (ws s) = none) (f4 : ∀ s s', s < m → s' < m → ws s = ws s' → s = s') : tgn K g q a m qs ws c q = 60 + 20 * c ∧ tgn K g q a m qs ws c a = 61 + 20 * c ∧ ∀ s, s < m → tgn K g q a m qs ws c (qs s) = 62 + 20 * c + s ∧ tgn K g q a m qs ws c (ws s) = 66 + 20 * c + s := by
  have nn : ∀ {x : Nat}, K x = none → ¬ (K x).isSome = true := fun h => by rw [h]; exact fun z => by cases z
  have qi : ∀ s s', s < m → s' < m → qs s = qs s' → s = s' := fun s s' h1 h2 e => by
    have e1 := (hS.2.2 s h1).o
    have e2 := (hS.2.2 s' h2).o
    rw [e, e2] at e1
    have e3 : nI s' = nI s := by simpa using congrArg (fun z => match z with | some (Sum.inr (_, Value.int v :: _)) => v | _ => 0) e1
    exact (nk_eqI e3 (by omega) (by omega)).symm
  have qw : ∀ s s', s < m → s' < m → qs s ≠ ws s' := fun s s' h1 h2 e => by
    have e1 := (hS.2.2 s h1).o
    obtain ⟨f, k1, -⟩ := hS.2.2 s' h2
    rw [e, k1.2] at e1; cases e1
  refine ⟨?_, ?_, fun s hs => ⟨?_, ?_⟩⟩
  · unfold tgn; rw [if_neg (nn f1), if_pos rfl]
  · unfold tgn; rw [if_neg (nn f2), if_neg hS.qa.symm, if_pos rfl]
  · obtain ⟨g1, g2, g3, g4⟩ := hS.qq hs
    have hex := tq_at hm hs qi
    unfold tgn
    rw [if_neg (nn (f3 s hs).1), if_neg g1, if_neg g2, hex, if_pos (by omega)]
  · obtain ⟨g1, g2, g3, g4⟩ := hS.qq hs
    have hno := tq_no (fun s' hs' => qw s' s hs' hs)
    have hex := tq_at hm hs f4
    unfold tgn
    rw [if_neg (nn (f3 s hs).2), if_neg g3, if_neg g4, hno, if_neg (by omega), hex]
theorem tgn_rk {T : Nat → Prop} {K K1 : nk_AH} {g : Nat → Nat} {q a m c : Nat} {qs ws : Nat → Nat} (h : ∀ x e, K x = some e → T (g x) → K1 x = some e) : rk T K g K1 (tgn K g q a m qs ws c) := fun x e hx ht => ⟨h x e hx ht, tgn_old hx⟩
section CUR
variable {K K2 : nk_AH} {g g2 : Nat → Nat} {o : Nat} {A A' : Nat → Nat → Int32} {I I' : Nat → Int32} {m b u l t l' m' b' a1 a2 a3 a4 a5 q2 sa2 b1 b2 c u0 : Nat} {qs2 ws2 bf : Nat → Nat} {z : Nat → Option Nat} {sh : Option Nat} {T : Nat → Prop}
/-- there is another shelf, without acts -/
theorem cW.cur (hn : cWn A I u l t) (hx : cWx K g o A I l t a1 a2 a3 a4 a5 sh) (hr : rk T K g K2 g2) (ht : ∀ t, t ≠ 0 → t ≠ 2 → t ≠ 3 → t ≠ 5 → T t) (ho : rT K2 g2 0 o (obc (.ref a1) (.ref a2) (.ref a3) (.ref a4) (.ref a5) (.ref q2) (.int (I' 2)) (.int (I' 3)))) (htp : cTw K2 g2 a2 (A' 5) l') (hl : l' ≤ 110)
    (c1 : rT K2 g2 5 a4 (acc b1 b2 c 0)) (c2 : rT K g 6 b1 (chc z)) (c3 : rT K g 7 b2 (bfc bf)) (hc : c < 24) (c6 : ∀ i, i < 24 → ∃ f, rT K g (30 + i) (bf i) (inc 32 f)) (hS : cSw K2 g2 0 q2 sa2 m' b' qs2 ws2 (A' 0) 0) (hV : shV (A' 0) 0 m' b') (himg : ∀ i, 3350 ≤ i → i < 3618 → A 0 i = A' 0 i)
    (e1 : A' 1 = A 1) (e2 : A' 2 = A 2) (e3 : A' 3 = A 3) (e4 : A' 4 = A 4) (e6 : A' 6 = A 6) (i0 : I' 0 = 0) (i1 : I' 1 = nI l') (i4 : I' 4 = I 4) : cW K2 g2 o A' I' m' b' 0 l' t := by
  obtain ⟨h1, h2, h3, h4, h5⟩ := hx
  refine ⟨⟨fun r hr => by rw [e3]; exact hn.1 r hr, i0, by omega, i1, hl, by rw [i4]; exact hn.2.2.2.2.2.1, hn.2.2.2.2.2.2⟩, a1, a2, a3, a4, a5, some q2, ⟨ho, ?_, htp, ?_, ?_⟩, Or.inr ⟨q2, sa2, qs2, ws2, rfl, hV, hS, ?_, fun j hj => by omega⟩⟩
  · rw [e2, e3, e4]; exact h2.mv hr (fun t z => ht t (by omega) (by omega) (by omega) (by omega))
  · rw [e1]; exact (h4.mv hr (fun t z => ht t (by omega) (by omega) (by omega) (by omega))).cg himg
  · rw [e6]; exact h5.mv hr (fun t z => ht t (by omega) (by omega) (by omega) (by omega))
  · refine ⟨b1, b2, z, bf, c, c1, c2.mv hr (ht _ (by omega) (by omega) (by omega) (by omega)), c3.mv hr (ht _ (by omega) (by omega) (by omega) (by omega)), hc, by omega, fun i hi => ?_, fun j hj => by omega⟩
    obtain ⟨fi, hfi⟩ := c6 i hi
    exact ⟨fi, hfi.mv hr (ht _ (by omega) (by omega) (by omega) (by omega))⟩
theorem cWs.ac {r : Nat → Int32} (h : cWs K g r m b u a4 sh) : ∃ b1 b2 z bf c, rT K g 5 a4 (acc b1 b2 c u) ∧ rT K g 6 b1 (chc z) ∧ rT K g 7 b2 (bfc bf) ∧ c < 24 ∧ ∀ i, i < 24 → ∃ f, rT K g (30 + i) (bf i) (inc 32 f) := by
  rcases h with ⟨_, _, _, rfl, _, _, c7⟩ | ⟨q, sa, qs, ws, rfl, s2, s3, s4, s5⟩
  · obtain ⟨b1, b2, z, bf, c, c1, c2, c3, hc, _, c6, _⟩ := c7
    exact ⟨b1, b2, z, bf, c, c1, c2, c3, hc, c6⟩
  · obtain ⟨b1, b2, z, bf, c, c1, c2, c3, hc, _, c6, _⟩ := s4
    exact ⟨b1, b2, z, bf, c, c1, c2, c3, hc, c6⟩
end CUR

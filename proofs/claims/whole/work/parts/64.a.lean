/-! tape and asks of the two states -/
theorem sp_A_id {f : Int32} {A : Nat → Nat → Int32} : sp_A f A A = A := by unfold sp_A; split <;> rfl
section TQ
variable {K K' : nk_AH} {g g' : Nat → Nat} {o : Nat} {A A' : Nat → Nat → Int32} {I I' : Nat → Int32} {m b u l t l' t' a1 a2 a3 a4 a5 : Nat} {sh : Option Nat}
theorem cWs.S {r : Nat → Int32} {s : Int32} (h : cWs K g r m b u a4 sh) (hs : sp_S m s) : ∃ q sa qs ws, sh = some q ∧ shV r 0 m b ∧ cSw K g 0 q sa m b qs ws r 0 ∧ cAw K g a4 m b qs r u ∧ ∀ j, j < u → ∀ s, s < m → gz (shF r (134 + 134 * j) s) b := by
  rcases h with ⟨_, h2, _⟩ | h
  · subst h2; have := hs.1; have := hs.2; omega
  · exact h
/-- the tape is another one -/
theorem cW.tape {T : Nat → Prop} (hn : cWn A I u l t) (hx : cWx K g o A I l t a1 a2 a3 a4 a5 sh) (hs : cWs K g (A 0) m b u a4 sh) (hr : rk T K g K' g') (ht : ∀ t, t ≠ 2 → t ≠ 3 → T t) (hw : cTw K' g' a2 (A' 5) l') (hl : l' ≤ 110) (i1 : I' 1 = nI l') (e0 : A' 0 = A 0) (e1 : A' 1 = A 1) (e2 : A' 2 = A 2) (e3 : A' 3 = A 3) (e4 : A' 4 = A 4) (e6 : A' 6 = A 6) (i0 : I' 0 = I 0) (i2 : I' 2 = I 2) (i3 : I' 3 = I 3) (i4 : I' 4 = I 4) : cW K' g' o A' I' m b u l' t := by
  obtain ⟨h1, h2, h3, h4, h5⟩ := hx
  refine ⟨⟨fun r hr => by rw [e3]; exact hn.1 r hr, by rw [i0]; exact hn.2.1, hn.2.2.1, i1, hl, by rw [i4]; exact hn.2.2.2.2.2.1, hn.2.2.2.2.2.2⟩, a1, a2, a3, a4, a5, sh, ⟨?_, ?_, hw, ?_, ?_⟩, ?_⟩
  · rw [i2, i3]; exact h1.mv hr (ht _ (by omega) (by omega))
  · rw [e2, e3, e4]; exact h2.mv hr (fun t z => ht t (by omega) (by omega))
  · rw [e0, e1]; exact h4.mv hr (fun t z => ht t (by omega) (by omega))
  · rw [e6]; exact h5.mv hr (fun t z => ht t (by omega) (by omega))
  · rw [e0]; exact hs.mv hr (fun t z => ht t (by omega) (by omega))
/-- the trace is another one -/
theorem cW.trace {T : Nat → Prop} (hn : cWn A I u l t) (hx : cWx K g o A I l t a1 a2 a3 a4 a5 sh) (hs : cWs K g (A 0) m b u a4 sh) (hr : rk T K g K' g') (ht : ∀ t, t ≠ 8 → t ≠ 9 → T t) (hw : cQw K' g' a5 (A' 6) t') (hl : t' ≤ 16) (i4 : I' 4 = nI t') (e0 : A' 0 = A 0) (e1 : A' 1 = A 1) (e2 : A' 2 = A 2) (e3 : A' 3 = A 3) (e4 : A' 4 = A 4) (e5 : A' 5 = A 5) (i0 : I' 0 = I 0) (i1 : I' 1 = I 1) (i2 : I' 2 = I 2) (i3 : I' 3 = I 3) : cW K' g' o A' I' m b u l t' := by
  obtain ⟨h1, h2, h3, h4, h5⟩ := hx
  refine ⟨⟨fun r hr => by rw [e3]; exact hn.1 r hr, by rw [i0]; exact hn.2.1, hn.2.2.1, by rw [i1]; exact hn.2.2.2.1, hn.2.2.2.2.1, i4, hl⟩, a1, a2, a3, a4, a5, sh, ⟨?_, ?_, ?_, ?_, hw⟩, ?_⟩
  · rw [i2, i3]; exact h1.mv hr (ht _ (by omega) (by omega))
  · rw [e2, e3, e4]; exact h2.mv hr (fun t z => ht t (by omega) (by omega))
  · rw [e5]; exact h3.mv hr (fun t z => ht t (by omega) (by omega))
  · rw [e0, e1]; exact h4.mv hr (fun t z => ht t (by omega) (by omega))
  · rw [e0]; exact hs.mv hr (fun t z => ht t (by omega) (by omega))
end TQ
theorem tr_a_cg {f f' : Nat → Int32} : ∀ (xs : List Int32) (t : Nat) (f f' : Nat → Int32), (∀ j, j < 16 → f j = f' j) → ∀ j, j < 16 → tr_a f t xs j = tr_a f' t xs j
  | [], t, f, f', h, j, hj => h j hj
  | x :: l, t, f, f', h, j, hj => by
    rw [tr_a, tr_a]
    refine tr_a_cg (f := f) (f' := f') l _ _ _ (fun i hi => ?_) j hj
    by_cases z : t < 16
    · rw [if_pos z, if_pos z]
      unfold upd
      split
      · rfl
      · exact h i hi
    · rw [if_neg z, if_neg z]; exact h i hi
theorem sp_trace_cg {f f' : Nat → Int32} {t : Nat} {i : Int32} (ht : t ≤ 16) (h : ∀ j, j < 16 → f j = f' j) : sp_trace f t i = sp_trace f' t i := by
  unfold sp_trace
  by_cases z : 0 ≤ i.toInt ∧ i.toInt < t
  · rw [if_pos z, if_pos z, h _ (by unfold sp_n Int32.toNatClampNeg; omega)]
  · rw [if_neg z, if_neg z]
theorem cnq_rows {K : nk_AH} {g : Nat → Nat} {z : Nat → Option Nat} {A : Nat → Nat → Int32} (h : ∀ r, r < 8 → cRr K g r (z r) (A 2) (A 3) (A 4)) : ∀ n, n ≤ 8 → cnq z n = sp_rows A n
  | 0, _ => rfl
  | n + 1, hn => by
    rw [cnq, sp_rows, cnq_rows h n (by omega)]
    rcases h n (by omega) with ⟨e1, e2⟩ | ⟨x, y, k, f, e1, e2, e3, _⟩
    · rw [e1, if_neg e2]; rfl
    · have h0 : 0 ≤ A 3 n := by rw [e2]; exact nk_0le e3
      rw [e1, if_pos h0]; rfl
theorem nk_up_s {p : Nat → Bool} {t k : Nat} (h : k < t) : nk_up p k (t - k) = if p k = true then some k else sp_abv p t k := by
  rw [show t - k = (t - (k + 1)) + 1 by omega, nk_up]
  rfl
theorem sp_abv_lt {p : Nat → Bool} {t k j : Nat} (h : sp_abv p t k = some j) : k < j ∧ j < t := by
  obtain ⟨h1, h2, -⟩ := nk_up_lt h
  omega

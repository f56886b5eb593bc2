/-! rows of the two states -/
theorem nk_y {p : Prop} [Decidable p] (h : p) : ¬ (if p then (1 : Int32) else 0) = 0 := by rw [if_pos h]; decide
theorem nk_n {p : Prop} [Decidable p] (h : ¬ p) : (if p then (1 : Int32) else 0) = 0 := if_neg h
/-- the answer, and the state of the class is that of the reference again -/
def pW (o : Nat) (V : Int32) (A : Nat → Nat → Int32) (I : Nat → Int32) : Option Value → nk_AH → Prop := fun v K' => v = some (.int V) ∧ ∃ g m b u l t, cW K' g o A I m b u l t
section PW
variable {K K' : nk_AH} {g g' : Nat → Nat} {o : Nat} {A A' : Nat → Nat → Int32} {I I' : Nat → Int32} {m b u l t a1 a2 a3 a4 a5 : Nat} {sh : Option Nat} {f v : Int32}
theorem pW.bad (hf : f = -1) (hW : cW K g o A I m b u l t) : pW o (sp_val f v) (sp_A f A A') (sp_I f I) (some (.int (-1000001))) K := by
  subst hf
  exact ⟨rfl, g, m, b, u, l, t, hW⟩
theorem pW.fnd (x : Int32) (hx0 : ¬ x = 0) (hx1 : ¬ x = -1) (hf : f = x) (hn : cWn A I u l t) (hx : cWx K g o A I l t a1 a2 a3 a4 a5 sh) (hs : cWs K g (A 0) m b u a4 sh) : pW o (sp_val f v) (sp_A f A A') (sp_I f I) (some (.int (-1000010 - x))) (nk_u K o (obc (.ref a1) (.ref a2) (.ref a3) (.ref a4) (.ref a5) (va_rf sh) (.int (I 2)) (.int x))) := by
  subst hf
  refine ⟨?_, g, m, b, u, l, t, ?_⟩
  · unfold sp_val; rw [if_neg hx1, if_neg hx0]
  · unfold sp_A sp_I
    rw [if_neg hx0, if_neg hx1]
    exact cW.fnd hn hx hs f
theorem pW.ok (hf : f = 0) (hW : cW K' g' o A' (va_up I 3 0) m b u l t) : pW o (sp_val f v) (sp_A f A A') (sp_I f I) (some (.int v)) K' := by
  subst hf
  exact ⟨rfl, g', m, b, u, l, t, hW⟩
theorem cRw.chg {r a : Nat} {z z' : Nat → Option Nat} {T : Nat → Prop} {A2 A3 A4 B2 B3 B4 : Nat → Int32} (h1 : rT K' g' 1 a (rwc z')) (hz : ∀ r', r' < 8 → r' ≠ r → z' r' = z r') (h2 : ∀ r', r' < 8 → cRr K g r' (z r') A2 A3 A4) (hr : rk T K g K' g') (ht : ∀ t, 10 ≤ t → t < 28 → t ≠ 10 + r → t ≠ 20 + r → T t) (hr8 : r < 8) (hc : ∀ r', r' < 8 → r' ≠ r → A2 r' = B2 r' ∧ A3 r' = B3 r' ∧ ∀ j, j < 40 → A4 (40 * r' + j) = B4 (40 * r' + j)) (hnew : cRr K' g' r (z' r) B2 B3 B4) : cRw K' g' a B2 B3 B4 := by
  refine ⟨z', h1, fun r' hr' => ?_⟩
  by_cases e : r' = r
  · rw [e]; exact hnew
  · obtain ⟨c1, c2, c3⟩ := hc r' hr' e
    rw [hz r' hr' e]
    rcases (h2 r' hr').mv hr (ht _ (by omega) (by omega) (by omega) (by omega)) (ht _ (by omega) (by omega) (by omega) (by omega)) with ⟨k1, k2⟩ | ⟨x, y, n, f, k1, k2, k3, k4, k5, k6⟩
    · exact Or.inl ⟨k1, by rw [← c2]; exact k2⟩
    · exact Or.inr ⟨x, y, n, f, k1, by rw [← c2]; exact k2, k3, by rw [← c1]; exact k4, k5, fun j hj => (k6 j hj).trans (c3 j (by omega))⟩
/-- rows and finding are other ones -/
theorem cW.rows {T : Nat → Prop} (hn : cWn A I u l t) (hx : cWx K g o A I l t a1 a2 a3 a4 a5 sh) (hs : cWs K g (A 0) m b u a4 sh) (hr : rk T K g K' g') (ht : ∀ t, t ≠ 0 → t ≠ 1 → ¬ (10 ≤ t ∧ t < 28) → T t) (ho : rT K' g' 0 o (obc (.ref a1) (.ref a2) (.ref a3) (.ref a4) (.ref a5) (va_rf sh) (.int (I' 2)) (.int (I' 3)))) (hw : cRw K' g' a1 (A' 2) (A' 3) (A' 4)) (e0 : A' 0 = A 0) (e1 : A' 1 = A 1) (e5 : A' 5 = A 5) (e6 : A' 6 = A 6) (i0 : I' 0 = I 0) (i1 : I' 1 = I 1) (i4 : I' 4 = I 4) (hm : mRw A') : cW K' g' o A' I' m b u l t := by
  obtain ⟨h1, h2, h3, h4, h5⟩ := hx
  refine ⟨⟨hm, by rw [i0]; exact hn.2.1, hn.2.2.1, by rw [i1]; exact hn.2.2.2.1, hn.2.2.2.2.1, by rw [i4]; exact hn.2.2.2.2.2.1, hn.2.2.2.2.2.2⟩, a1, a2, a3, a4, a5, sh, ⟨ho, hw, ?_, ?_, ?_⟩, ?_⟩
  · rw [e5]; exact h3.mv hr (fun t z => ht t (by omega) (by omega) (by omega))
  · rw [e0, e1]; exact h4.mv hr (fun t z => ht t (by omega) (by omega) (by omega))
  · rw [e6]; exact h5.mv hr (fun t z => ht t (by omega) (by omega) (by omega))
  · rw [e0]; exact hs.mv hr (fun t z => ht t (by omega) (by omega) (by omega))
end PW
theorem sp_n_R7 {x : Int32} (h : sp_R x 0 7) : sp_n x < 8 ∧ x = nI (sp_n x) := ⟨by have := h.1; have := h.2; unfold sp_n Int32.toNatClampNeg; omega, nI_ofI h.1⟩
theorem upd_ne {f : Nat → Int32} {i j : Nat} {x : Int32} (h : j ≠ i) : upd f i x j = f j := by unfold upd; rw [if_neg h]
theorem upd_at {f : Nat → Int32} {i : Nat} {x : Int32} : upd f i x i = x := by unfold upd; rw [if_pos rfl]
theorem nk_0le {n : Nat} (h : n ≤ 40) : (0 : Int32) ≤ nI n := (nI_leI (a := 0) (by omega) (by omega)).mpr (by omega)
theorem mRw.up {A A' : Nat → Nat → Int32} {r : Nat} {x : Int32} (h : mRw A) (e : A' 3 = upd (A 3) r x) (h1 : -1 ≤ x.toInt) (h2 : x.toInt ≤ 40) : mRw A' := fun r' hr' => by
  rw [e]
  by_cases z : r' = r
  · rw [z, upd_at]; exact ⟨h1, h2⟩
  · rw [upd_ne z]; exact h r' hr' 

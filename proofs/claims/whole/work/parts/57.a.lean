/-! the shelf of the class, seen -/
abbrev obc (v1 v2 v3 v4 v5 sh f1 f2 : Value) : nk_AC := .inr (6, [v1, v2, v3, v4, v5, sh, f1, f2])
/-- a shelf at a place of an array is one -/
def shV (r : Nat → Int32) (base m b : Nat) : Prop := r base = nI m ∧ r (base + 1) = nI b ∧ 1 ≤ m ∧ m ≤ 4 ∧ 2 ≤ b ∧ b ≤ 10 ∧ ∀ s, s < m → (∃ kk, 1 ≤ kk ∧ kk ≤ 5 ∧ r (base + 2 + s) = nI kk) ∧ gz (shF r base s) b
def cVs (K : nk_AH) (o m b : Nat) (r : Nat → Int32) (v1 v2 v3 v4 v5 f1 f2 : Value) (q sa : Nat) (qs ws : Nat → Nat) : Prop := K o = some (obc v1 v2 v3 v4 v5 (.ref q) f1 f2) ∧ cS K q sa m b qs ws (shK r 0) (shF r 0) ∧ shV r 0 m b
/-- the class's object and its shelf, which is that of an array -/
def cV (K : nk_AH) (o m b : Nat) (r : Nat → Int32) : Prop := (∃ v1 v2 v3 v4 v5 f1 f2, K o = some (obc v1 v2 v3 v4 v5 .null f1 f2) ∧ m = 0 ∧ b = 0) ∨ ∃ v1 v2 v3 v4 v5 f1 f2 q sa qs ws, cVs K o m b r v1 v2 v3 v4 v5 f1 f2 q sa qs ws
theorem cV.S {K : nk_AH} {o m b : Nat} {r : Nat → Int32} {s : Int32} (h : cV K o m b r) (hs : sp_S m s) : ∃ v1 v2 v3 v4 v5 f1 f2 q sa qs ws, cVs K o m b r v1 v2 v3 v4 v5 f1 f2 q sa qs ws := by
  rcases h with ⟨_, _, _, _, _, _, _, _, h2, _⟩ | h
  · subst h2; have := hs.1; have := hs.2; omega
  · exact h
theorem cV.K {K : nk_AH} {o m b : Nat} {r : Nat → Int32} {s : Int32} (h : cV K o m b r) (hs : sp_K b s) : ∃ v1 v2 v3 v4 v5 f1 f2 q sa qs ws, cVs K o m b r v1 v2 v3 v4 v5 f1 f2 q sa qs ws := by
  rcases h with ⟨_, _, _, _, _, _, _, _, _, h2⟩ | h
  · subst h2; have := hs.1; have := hs.2; rw [nk_tp_0] at this; omega
  · exact h
theorem cV.o {K : nk_AH} {o m b : Nat} {r : Nat → Int32} (h : cV K o m b r) : ∃ fs, K o = some (.inr (6, fs)) := by
  rcases h with ⟨_, _, _, _, _, _, _, h, _⟩ | ⟨_, _, _, _, _, _, _, _, _, _, _, h, _⟩
  · exact ⟨_, h⟩
  · exact ⟨_, h⟩
theorem sp_n_S {m : Nat} {s : Int32} (h : sp_S m s) : sp_n s < m ∧ s = nI (sp_n s) := ⟨by have := h.1; have := h.2; unfold sp_n Int32.toNatClampNeg; omega, nI_ofI h.1⟩
theorem sp_n_K {b : Nat} {k : Int32} (h : sp_K b k) : sp_n k < nk_tp b ∧ k = nI (sp_n k) := ⟨by have := h.1; have := h.2; unfold sp_n Int32.toNatClampNeg; omega, nI_ofI h.1⟩
